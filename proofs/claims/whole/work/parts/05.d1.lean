theorem d_Cs_init_0 : decode b_Cs_init 0 = .ok (.aload_n 0, 1) := by decide +kernel
theorem d_Cs_init_1 : decode b_Cs_init 1 = .ok (.invokespecial 1, 3) := by decide +kernel
theorem d_Cs_init_4 : decode b_Cs_init 4 = .ok (.aload_n 0, 1) := by decide +kernel
theorem d_Cs_init_5 : decode b_Cs_init 5 = .ok (.new 7, 3) := by decide +kernel
theorem d_Cs_init_8 : decode b_Cs_init 8 = .ok (.dup, 1) := by decide +kernel
theorem d_Cs_init_9 : decode b_Cs_init 9 = .ok (.invokespecial 9, 3) := by decide +kernel
theorem d_Cs_init_12 : decode b_Cs_init 12 = .ok (.putfield 10, 3) := by decide +kernel
theorem d_Cs_init_15 : decode b_Cs_init 15 = .ok (.aload_n 0, 1) := by decide +kernel
theorem d_Cs_init_16 : decode b_Cs_init 16 = .ok (.iconst 4, 1) := by decide +kernel
theorem d_Cs_init_17 : decode b_Cs_init 17 = .ok (.newarray .int, 2) := by decide +kernel
theorem d_Cs_init_19 : decode b_Cs_init 19 = .ok (.putfield 16, 3) := by decide +kernel
theorem d_Cs_init_22 : decode b_Cs_init 22 = .ok (.aload_n 0, 1) := by decide +kernel
theorem d_Cs_init_23 : decode b_Cs_init 23 = .ok (.new 20, 3) := by decide +kernel
theorem d_Cs_init_26 : decode b_Cs_init 26 = .ok (.dup, 1) := by decide +kernel
theorem d_Cs_init_27 : decode b_Cs_init 27 = .ok (.invokespecial 22, 3) := by decide +kernel
theorem d_Cs_init_30 : decode b_Cs_init 30 = .ok (.putfield 23, 3) := by decide +kernel
theorem d_Cs_init_33 : decode b_Cs_init 33 = .ok (.iconst 0, 1) := by decide +kernel
theorem d_Cs_init_34 : decode b_Cs_init 34 = .ok (.istore_n 1, 1) := by decide +kernel
theorem d_Cs_init_35 : decode b_Cs_init 35 = .ok (.iload_n 1, 1) := by decide +kernel
theorem d_Cs_init_36 : decode b_Cs_init 36 = .ok (.iconst 4, 1) := by decide +kernel
theorem d_Cs_init_37 : decode b_Cs_init 37 = .ok (.if_icmp .ge 17, 3) := by decide +kernel
theorem d_Cs_init_40 : decode b_Cs_init 40 = .ok (.aload_n 0, 1) := by decide +kernel
theorem d_Cs_init_41 : decode b_Cs_init 41 = .ok (.getfield 16, 3) := by decide +kernel
theorem d_Cs_init_44 : decode b_Cs_init 44 = .ok (.iload_n 1, 1) := by decide +kernel
theorem d_Cs_init_45 : decode b_Cs_init 45 = .ok (.bipush 10, 2) := by decide +kernel
theorem d_Cs_init_47 : decode b_Cs_init 47 = .ok (.iastore, 1) := by decide +kernel
theorem d_Cs_init_48 : decode b_Cs_init 48 = .ok (.iinc 1 1, 3) := by decide +kernel
theorem d_Cs_init_51 : decode b_Cs_init 51 = .ok (.goto (-16), 3) := by decide +kernel
theorem d_Cs_init_54 : decode b_Cs_init 54 = .ok (.return_, 1) := by decide +kernel
theorem d_AL_init_0 : decode b_AL_init 0 = .ok (.aload_n 0, 1) := by decide +kernel
theorem d_AL_init_1 : decode b_AL_init 1 = .ok (.invokespecial 1, 3) := by decide +kernel
theorem d_AL_init_4 : decode b_AL_init 4 = .ok (.aload_n 0, 1) := by decide +kernel
theorem d_AL_init_5 : decode b_AL_init 5 = .ok (.getstatic 39, 3) := by decide +kernel
theorem d_AL_init_8 : decode b_AL_init 8 = .ok (.putfield 9, 3) := by decide +kernel
theorem d_AL_init_11 : decode b_AL_init 11 = .ok (.return_, 1) := by decide +kernel
theorem d_Ab_init_0 : decode b_Ab_init 0 = .ok (.aload_n 0, 1) := by decide +kernel
theorem d_Ab_init_1 : decode b_Ab_init 1 = .ok (.invokespecial 1, 3) := by decide +kernel
theorem d_Ab_init_4 : decode b_Ab_init 4 = .ok (.aload_n 0, 1) := by decide +kernel
theorem d_Ab_init_5 : decode b_Ab_init 5 = .ok (.iconst 0, 1) := by decide +kernel
theorem d_Ab_init_6 : decode b_Ab_init 6 = .ok (.putfield 7, 3) := by decide +kernel
theorem d_Ab_init_9 : decode b_Ab_init 9 = .ok (.return_, 1) := by decide +kernel
theorem d_Ac_init_0 : decode b_Ac_init 0 = .ok (.aload_n 0, 1) := by decide +kernel
theorem d_Ac_init_1 : decode b_Ac_init 1 = .ok (.invokespecial 1, 3) := by decide +kernel
theorem d_Ac_init_4 : decode b_Ac_init 4 = .ok (.return_, 1) := by decide +kernel
theorem d_Hi_init_0 : decode b_Hi_init 0 = .ok (.aload_n 0, 1) := by decide +kernel
theorem d_Hi_init_1 : decode b_Hi_init 1 = .ok (.invokespecial 3, 3) := by decide +kernel
theorem d_Hi_init_4 : decode b_Hi_init 4 = .ok (.aload_n 0, 1) := by decide +kernel
theorem d_Hi_init_5 : decode b_Hi_init 5 = .ok (.bipush 64, 2) := by decide +kernel
theorem d_Hi_init_7 : decode b_Hi_init 7 = .ok (.newarray .int, 2) := by decide +kernel
theorem d_Hi_init_9 : decode b_Hi_init 9 = .ok (.putfield 9, 3) := by decide +kernel
theorem d_Hi_init_12 : decode b_Hi_init 12 = .ok (.aload_n 0, 1) := by decide +kernel
theorem d_Hi_init_13 : decode b_Hi_init 13 = .ok (.bipush (-3), 2) := by decide +kernel
theorem d_Hi_init_15 : decode b_Hi_init 15 = .ok (.putfield 15, 3) := by decide +kernel
theorem d_Hi_init_18 : decode b_Hi_init 18 = .ok (.aload_n 0, 1) := by decide +kernel
theorem d_Hi_init_19 : decode b_Hi_init 19 = .ok (.bipush (-3), 2) := by decide +kernel
theorem d_Hi_init_21 : decode b_Hi_init 21 = .ok (.putfield 19, 3) := by decide +kernel
theorem d_Hi_init_24 : decode b_Hi_init 24 = .ok (.return_, 1) := by decide +kernel
theorem d_Cs_define_0 : decode b_Cs_define 0 = .ok (.aload_n 0, 1) := by decide +kernel
theorem d_Cs_define_1 : decode b_Cs_define 1 = .ok (.getfield 27, 3) := by decide +kernel
theorem d_Cs_define_4 : decode b_Cs_define 4 = .ok (.ifCond .ne 53, 3) := by decide +kernel
theorem d_Cs_define_7 : decode b_Cs_define 7 = .ok (.iload_n 1, 1) := by decide +kernel
theorem d_Cs_define_8 : decode b_Cs_define 8 = .ok (.iconst 2, 1) := by decide +kernel
theorem d_Cs_define_9 : decode b_Cs_define 9 = .ok (.bipush 60, 2) := by decide +kernel
theorem d_Cs_define_11 : decode b_Cs_define 11 = .ok (.invokestatic 31, 3) := by decide +kernel
theorem d_Cs_define_14 : decode b_Cs_define 14 = .ok (.ifCond .ne 43, 3) := by decide +kernel
theorem d_Cs_define_17 : decode b_Cs_define 17 = .ok (.iload_n 2, 1) := by decide +kernel
theorem d_Cs_define_18 : decode b_Cs_define 18 = .ok (.iconst 1, 1) := by decide +kernel
theorem d_Cs_define_19 : decode b_Cs_define 19 = .ok (.iload_n 1, 1) := by decide +kernel
theorem d_Cs_define_20 : decode b_Cs_define 20 = .ok (.invokestatic 31, 3) := by decide +kernel
theorem d_Cs_define_23 : decode b_Cs_define 23 = .ok (.ifCond .ne 34, 3) := by decide +kernel
theorem d_Cs_define_26 : decode b_Cs_define 26 = .ok (.iload_n 3, 1) := by decide +kernel
theorem d_Cs_define_27 : decode b_Cs_define 27 = .ok (.iconst 1, 1) := by decide +kernel
theorem d_Cs_define_28 : decode b_Cs_define 28 = .ok (.iload_n 1, 1) := by decide +kernel
theorem d_Cs_define_29 : decode b_Cs_define 29 = .ok (.invokestatic 31, 3) := by decide +kernel
theorem d_Cs_define_32 : decode b_Cs_define 32 = .ok (.ifCond .ne 25, 3) := by decide +kernel
theorem d_Cs_define_35 : decode b_Cs_define 35 = .ok (.iload 4, 2) := by decide +kernel
theorem d_Cs_define_37 : decode b_Cs_define 37 = .ok (.iconst 1, 1) := by decide +kernel
theorem d_Cs_define_38 : decode b_Cs_define 38 = .ok (.bipush 10, 2) := by decide +kernel
theorem d_Cs_define_40 : decode b_Cs_define 40 = .ok (.invokestatic 31, 3) := by decide +kernel
theorem d_Cs_define_43 : decode b_Cs_define 43 = .ok (.ifCond .ne 14, 3) := by decide +kernel
theorem d_Cs_define_46 : decode b_Cs_define 46 = .ok (.iload 5, 2) := by decide +kernel
theorem d_Cs_define_48 : decode b_Cs_define 48 = .ok (.iconst (-1), 1) := by decide +kernel
theorem d_Cs_define_49 : decode b_Cs_define 49 = .ok (.bipush 59, 2) := by decide +kernel
theorem d_Cs_define_51 : decode b_Cs_define 51 = .ok (.invokestatic 31, 3) := by decide +kernel
theorem d_Cs_define_54 : decode b_Cs_define 54 = .ok (.ifCond .eq 5, 3) := by decide +kernel
theorem d_Cs_define_57 : decode b_Cs_define 57 = .ok (.iconst (-1), 1) := by decide +kernel
theorem d_Cs_define_58 : decode b_Cs_define 58 = .ok (.ireturn, 1) := by decide +kernel
theorem d_Cs_define_59 : decode b_Cs_define 59 = .ok (.aload_n 0, 1) := by decide +kernel
theorem d_Cs_define_60 : decode b_Cs_define 60 = .ok (.getfield 10, 3) := by decide +kernel
theorem d_Cs_define_63 : decode b_Cs_define 63 = .ok (.invokevirtual 35, 3) := by decide +kernel
theorem d_Cs_define_66 : decode b_Cs_define 66 = .ok (.bipush 6, 2) := by decide +kernel
theorem d_Cs_define_68 : decode b_Cs_define 68 = .ok (.if_icmp .lt 6, 3) := by decide +kernel
theorem d_Cs_define_71 : decode b_Cs_define 71 = .ok (.bipush (-2), 2) := by decide +kernel
theorem d_Cs_define_73 : decode b_Cs_define 73 = .ok (.ireturn, 1) := by decide +kernel
theorem d_Cs_define_74 : decode b_Cs_define 74 = .ok (.aload_n 0, 1) := by decide +kernel
theorem d_Cs_define_75 : decode b_Cs_define 75 = .ok (.getfield 10, 3) := by decide +kernel
theorem d_Cs_define_78 : decode b_Cs_define 78 = .ok (.new 39, 3) := by decide +kernel
theorem d_Cs_define_81 : decode b_Cs_define 81 = .ok (.dup, 1) := by decide +kernel
theorem d_Cs_define_82 : decode b_Cs_define 82 = .ok (.iload_n 1, 1) := by decide +kernel
theorem d_Cs_define_83 : decode b_Cs_define 83 = .ok (.iload_n 2, 1) := by decide +kernel
theorem d_Cs_define_84 : decode b_Cs_define 84 = .ok (.iload_n 3, 1) := by decide +kernel
theorem d_Cs_define_85 : decode b_Cs_define 85 = .ok (.iload 4, 2) := by decide +kernel
theorem d_Cs_define_87 : decode b_Cs_define 87 = .ok (.iload 5, 2) := by decide +kernel
theorem d_Cs_define_89 : decode b_Cs_define 89 = .ok (.invokespecial 41, 3) := by decide +kernel
theorem d_Cs_define_92 : decode b_Cs_define 92 = .ok (.invokevirtual 44, 3) := by decide +kernel
theorem d_Cs_define_95 : decode b_Cs_define 95 = .ok (.pop, 1) := by decide +kernel
theorem d_Cs_define_96 : decode b_Cs_define 96 = .ok (.aload_n 0, 1) := by decide +kernel
theorem d_Cs_define_97 : decode b_Cs_define 97 = .ok (.getfield 10, 3) := by decide +kernel
theorem d_Cs_define_100 : decode b_Cs_define 100 = .ok (.invokevirtual 35, 3) := by decide +kernel
theorem d_Cs_define_103 : decode b_Cs_define 103 = .ok (.iconst 1, 1) := by decide +kernel
theorem d_Cs_define_104 : decode b_Cs_define 104 = .ok (.isub, 1) := by decide +kernel
theorem d_Cs_define_105 : decode b_Cs_define 105 = .ok (.ireturn, 1) := by decide +kernel
theorem d_Cs_isOutside_0 : decode b_Cs_isOutside 0 = .ok (.iload_n 0, 1) := by decide +kernel
theorem d_Cs_isOutside_1 : decode b_Cs_isOutside 1 = .ok (.iload_n 1, 1) := by decide +kernel
theorem d_Cs_isOutside_2 : decode b_Cs_isOutside 2 = .ok (.if_icmp .lt 8, 3) := by decide +kernel
theorem d_Cs_isOutside_5 : decode b_Cs_isOutside 5 = .ok (.iload_n 0, 1) := by decide +kernel
theorem d_Cs_isOutside_6 : decode b_Cs_isOutside 6 = .ok (.iload_n 2, 1) := by decide +kernel
theorem d_Cs_isOutside_7 : decode b_Cs_isOutside 7 = .ok (.if_icmp .le 7, 3) := by decide +kernel
theorem d_Cs_isOutside_10 : decode b_Cs_isOutside 10 = .ok (.iconst 1, 1) := by decide +kernel
theorem d_Cs_isOutside_11 : decode b_Cs_isOutside 11 = .ok (.goto 4, 3) := by decide +kernel
theorem d_Cs_isOutside_14 : decode b_Cs_isOutside 14 = .ok (.iconst 0, 1) := by decide +kernel
theorem d_Cs_isOutside_15 : decode b_Cs_isOutside 15 = .ok (.ireturn, 1) := by decide +kernel
theorem d_AL_size_0 : decode b_AL_size 0 = .ok (.aload_n 0, 1) := by decide +kernel
theorem d_AL_size_1 : decode b_AL_size 1 = .ok (.getfield 48, 3) := by decide +kernel
theorem d_AL_size_4 : decode b_AL_size 4 = .ok (.ireturn, 1) := by decide +kernel
theorem d_Ta_init_0 : decode b_Ta_init 0 = .ok (.aload_n 0, 1) := by decide +kernel
theorem d_Ta_init_1 : decode b_Ta_init 1 = .ok (.invokespecial 3, 3) := by decide +kernel
theorem d_Ta_init_4 : decode b_Ta_init 4 = .ok (.aload_n 0, 1) := by decide +kernel
theorem d_Ta_init_5 : decode b_Ta_init 5 = .ok (.new 9, 3) := by decide +kernel
theorem d_Ta_init_8 : decode b_Ta_init 8 = .ok (.dup, 1) := by decide +kernel
theorem d_Ta_init_9 : decode b_Ta_init 9 = .ok (.invokespecial 11, 3) := by decide +kernel
theorem d_Ta_init_12 : decode b_Ta_init 12 = .ok (.putfield 12, 3) := by decide +kernel
theorem d_Ta_init_15 : decode b_Ta_init 15 = .ok (.aload_n 0, 1) := by decide +kernel
theorem d_Ta_init_16 : decode b_Ta_init 16 = .ok (.new 18, 3) := by decide +kernel
theorem d_Ta_init_19 : decode b_Ta_init 19 = .ok (.dup, 1) := by decide +kernel
theorem d_Ta_init_20 : decode b_Ta_init 20 = .ok (.invokespecial 20, 3) := by decide +kernel
theorem d_Ta_init_23 : decode b_Ta_init 23 = .ok (.putfield 21, 3) := by decide +kernel
theorem d_Ta_init_26 : decode b_Ta_init 26 = .ok (.aload_n 0, 1) := by decide +kernel
theorem d_Ta_init_27 : decode b_Ta_init 27 = .ok (.iload_n 1, 1) := by decide +kernel
theorem d_Ta_init_28 : decode b_Ta_init 28 = .ok (.putfield 25, 3) := by decide +kernel
theorem d_Ta_init_31 : decode b_Ta_init 31 = .ok (.aload_n 0, 1) := by decide +kernel
theorem d_Ta_init_32 : decode b_Ta_init 32 = .ok (.iload_n 2, 1) := by decide +kernel
theorem d_Ta_init_33 : decode b_Ta_init 33 = .ok (.putfield 29, 3) := by decide +kernel
theorem d_Ta_init_36 : decode b_Ta_init 36 = .ok (.aload_n 0, 1) := by decide +kernel
theorem d_Ta_init_37 : decode b_Ta_init 37 = .ok (.iload_n 3, 1) := by decide +kernel
theorem d_Ta_init_38 : decode b_Ta_init 38 = .ok (.putfield 32, 3) := by decide +kernel
theorem d_Ta_init_41 : decode b_Ta_init 41 = .ok (.aload_n 0, 1) := by decide +kernel
theorem d_Ta_init_42 : decode b_Ta_init 42 = .ok (.iload 4, 2) := by decide +kernel
theorem d_Ta_init_44 : decode b_Ta_init 44 = .ok (.putfield 35, 3) := by decide +kernel
theorem d_Ta_init_47 : decode b_Ta_init 47 = .ok (.aload_n 0, 1) := by decide +kernel
theorem d_Ta_init_48 : decode b_Ta_init 48 = .ok (.iload 5, 2) := by decide +kernel
theorem d_Ta_init_50 : decode b_Ta_init 50 = .ok (.iconst (-1), 1) := by decide +kernel
theorem d_Ta_init_51 : decode b_Ta_init 51 = .ok (.if_icmp .ne 7, 3) := by decide +kernel
theorem d_Ta_init_54 : decode b_Ta_init 54 = .ok (.iconst 1, 1) := by decide +kernel
theorem d_Ta_init_55 : decode b_Ta_init 55 = .ok (.goto 4, 3) := by decide +kernel
theorem d_Ta_init_58 : decode b_Ta_init 58 = .ok (.iconst 0, 1) := by decide +kernel
theorem d_Ta_init_59 : decode b_Ta_init 59 = .ok (.putfield 38, 3) := by decide +kernel
theorem d_Ta_init_62 : decode b_Ta_init 62 = .ok (.aload_n 0, 1) := by decide +kernel
theorem d_Ta_init_63 : decode b_Ta_init 63 = .ok (.iload 5, 2) := by decide +kernel
theorem d_Ta_init_65 : decode b_Ta_init 65 = .ok (.putfield 42, 3) := by decide +kernel
theorem d_Ta_init_68 : decode b_Ta_init 68 = .ok (.return_, 1) := by decide +kernel
theorem d_Jq_init_0 : decode b_Jq_init 0 = .ok (.aload_n 0, 1) := by decide +kernel
theorem d_Jq_init_1 : decode b_Jq_init 1 = .ok (.invokespecial 3, 3) := by decide +kernel
theorem d_Jq_init_4 : decode b_Jq_init 4 = .ok (.aload_n 0, 1) := by decide +kernel
theorem d_Jq_init_5 : decode b_Jq_init 5 = .ok (.bipush 8, 2) := by decide +kernel
theorem d_Jq_init_7 : decode b_Jq_init 7 = .ok (.newarray .int, 2) := by decide +kernel
theorem d_Jq_init_9 : decode b_Jq_init 9 = .ok (.putfield 9, 3) := by decide +kernel
theorem d_Jq_init_12 : decode b_Jq_init 12 = .ok (.return_, 1) := by decide +kernel
theorem d_AL_add_0 : decode b_AL_add 0 = .ok (.aload_n 0, 1) := by decide +kernel
theorem d_AL_add_1 : decode b_AL_add 1 = .ok (.dup, 1) := by decide +kernel
theorem d_AL_add_2 : decode b_AL_add 2 = .ok (.getfield 63, 3) := by decide +kernel
theorem d_AL_add_5 : decode b_AL_add 5 = .ok (.iconst 1, 1) := by decide +kernel
theorem d_AL_add_6 : decode b_AL_add 6 = .ok (.iadd, 1) := by decide +kernel
theorem d_AL_add_7 : decode b_AL_add 7 = .ok (.putfield 63, 3) := by decide +kernel
theorem d_AL_add_10 : decode b_AL_add 10 = .ok (.aload_n 0, 1) := by decide +kernel
theorem d_AL_add_11 : decode b_AL_add 11 = .ok (.aload_n 1, 1) := by decide +kernel
theorem d_AL_add_12 : decode b_AL_add 12 = .ok (.aload_n 0, 1) := by decide +kernel
theorem d_AL_add_13 : decode b_AL_add 13 = .ok (.getfield 9, 3) := by decide +kernel
theorem d_AL_add_16 : decode b_AL_add 16 = .ok (.aload_n 0, 1) := by decide +kernel
theorem d_AL_add_17 : decode b_AL_add 17 = .ok (.getfield 48, 3) := by decide +kernel
theorem d_AL_add_20 : decode b_AL_add 20 = .ok (.invokevirtual 131, 3) := by decide +kernel
theorem d_AL_add_23 : decode b_AL_add 23 = .ok (.iconst 1, 1) := by decide +kernel
theorem d_AL_add_24 : decode b_AL_add 24 = .ok (.ireturn, 1) := by decide +kernel
theorem d_AL_add_Ljaval_0 : decode b_AL_add_Ljaval 0 = .ok (.iload_n 3, 1) := by decide +kernel
theorem d_AL_add_Ljaval_1 : decode b_AL_add_Ljaval 1 = .ok (.aload_n 2, 1) := by decide +kernel
theorem d_AL_add_Ljaval_2 : decode b_AL_add_Ljaval 2 = .ok (.arraylength, 1) := by decide +kernel
theorem d_AL_add_Ljaval_3 : decode b_AL_add_Ljaval 3 = .ok (.if_icmp .ne 8, 3) := by decide +kernel
theorem d_AL_add_Ljaval_6 : decode b_AL_add_Ljaval 6 = .ok (.aload_n 0, 1) := by decide +kernel
theorem d_AL_add_Ljaval_7 : decode b_AL_add_Ljaval 7 = .ok (.invokevirtual 129, 3) := by decide +kernel
theorem d_AL_add_Ljaval_10 : decode b_AL_add_Ljaval 10 = .ok (.astore_n 2, 1) := by decide +kernel
theorem d_AL_add_Ljaval_11 : decode b_AL_add_Ljaval 11 = .ok (.aload_n 2, 1) := by decide +kernel
theorem d_AL_add_Ljaval_12 : decode b_AL_add_Ljaval 12 = .ok (.iload_n 3, 1) := by decide +kernel
theorem d_AL_add_Ljaval_13 : decode b_AL_add_Ljaval 13 = .ok (.aload_n 1, 1) := by decide +kernel
theorem d_AL_add_Ljaval_14 : decode b_AL_add_Ljaval 14 = .ok (.aastore, 1) := by decide +kernel
theorem d_AL_add_Ljaval_15 : decode b_AL_add_Ljaval 15 = .ok (.aload_n 0, 1) := by decide +kernel
theorem d_AL_add_Ljaval_16 : decode b_AL_add_Ljaval 16 = .ok (.iload_n 3, 1) := by decide +kernel
theorem d_AL_add_Ljaval_17 : decode b_AL_add_Ljaval 17 = .ok (.iconst 1, 1) := by decide +kernel
theorem d_AL_add_Ljaval_18 : decode b_AL_add_Ljaval 18 = .ok (.iadd, 1) := by decide +kernel
theorem d_AL_add_Ljaval_19 : decode b_AL_add_Ljaval 19 = .ok (.putfield 48, 3) := by decide +kernel
theorem d_AL_add_Ljaval_22 : decode b_AL_add_Ljaval 22 = .ok (.return_, 1) := by decide +kernel
theorem d_AL_grow_0 : decode b_AL_grow 0 = .ok (.aload_n 0, 1) := by decide +kernel
theorem d_AL_grow_1 : decode b_AL_grow 1 = .ok (.aload_n 0, 1) := by decide +kernel
theorem d_AL_grow_2 : decode b_AL_grow 2 = .ok (.getfield 48, 3) := by decide +kernel
theorem d_AL_grow_5 : decode b_AL_grow 5 = .ok (.iconst 1, 1) := by decide +kernel
theorem d_AL_grow_6 : decode b_AL_grow 6 = .ok (.iadd, 1) := by decide +kernel
theorem d_AL_grow_7 : decode b_AL_grow 7 = .ok (.invokevirtual 69, 3) := by decide +kernel
theorem d_AL_grow_10 : decode b_AL_grow 10 = .ok (.areturn, 1) := by decide +kernel
theorem d_AL_grow_ILjava_0 : decode b_AL_grow_ILjava 0 = .ok (.aload_n 0, 1) := by decide +kernel
theorem d_AL_grow_ILjava_1 : decode b_AL_grow_ILjava 1 = .ok (.getfield 9, 3) := by decide +kernel
theorem d_AL_grow_ILjava_4 : decode b_AL_grow_ILjava 4 = .ok (.arraylength, 1) := by decide +kernel
theorem d_AL_grow_ILjava_5 : decode b_AL_grow_ILjava 5 = .ok (.istore_n 2, 1) := by decide +kernel
theorem d_AL_grow_ILjava_6 : decode b_AL_grow_ILjava 6 = .ok (.iload_n 2, 1) := by decide +kernel
theorem d_AL_grow_ILjava_7 : decode b_AL_grow_ILjava 7 = .ok (.ifCond .gt 13, 3) := by decide +kernel
theorem d_AL_grow_ILjava_10 : decode b_AL_grow_ILjava 10 = .ok (.aload_n 0, 1) := by decide +kernel
theorem d_AL_grow_ILjava_11 : decode b_AL_grow_ILjava 11 = .ok (.getfield 9, 3) := by decide +kernel
theorem d_AL_grow_ILjava_14 : decode b_AL_grow_ILjava 14 = .ok (.getstatic 39, 3) := by decide +kernel
theorem d_AL_grow_ILjava_17 : decode b_AL_grow_ILjava 17 = .ok (.if_acmp .eq 28, 3) := by decide +kernel
theorem d_AL_grow_ILjava_20 : decode b_AL_grow_ILjava 20 = .ok (.iload_n 2, 1) := by decide +kernel
theorem d_AL_grow_ILjava_21 : decode b_AL_grow_ILjava 21 = .ok (.iload_n 1, 1) := by decide +kernel
theorem d_AL_grow_ILjava_22 : decode b_AL_grow_ILjava 22 = .ok (.iload_n 2, 1) := by decide +kernel
theorem d_AL_grow_ILjava_23 : decode b_AL_grow_ILjava 23 = .ok (.isub, 1) := by decide +kernel
theorem d_AL_grow_ILjava_24 : decode b_AL_grow_ILjava 24 = .ok (.iload_n 2, 1) := by decide +kernel
theorem d_AL_grow_ILjava_25 : decode b_AL_grow_ILjava 25 = .ok (.iconst 1, 1) := by decide +kernel
theorem d_AL_grow_ILjava_26 : decode b_AL_grow_ILjava 26 = .ok (.ishr, 1) := by decide +kernel
theorem d_AL_grow_ILjava_27 : decode b_AL_grow_ILjava 27 = .ok (.invokestatic 73, 3) := by decide +kernel
theorem d_AL_grow_ILjava_30 : decode b_AL_grow_ILjava 30 = .ok (.istore_n 3, 1) := by decide +kernel
theorem d_AL_grow_ILjava_31 : decode b_AL_grow_ILjava 31 = .ok (.aload_n 0, 1) := by decide +kernel
theorem d_AL_grow_ILjava_32 : decode b_AL_grow_ILjava 32 = .ok (.aload_n 0, 1) := by decide +kernel
theorem d_AL_grow_ILjava_33 : decode b_AL_grow_ILjava 33 = .ok (.getfield 9, 3) := by decide +kernel
theorem d_AL_grow_ILjava_36 : decode b_AL_grow_ILjava 36 = .ok (.iload_n 3, 1) := by decide +kernel
theorem d_AL_grow_ILjava_37 : decode b_AL_grow_ILjava 37 = .ok (.invokestatic 66, 3) := by decide +kernel
theorem d_AL_grow_ILjava_40 : decode b_AL_grow_ILjava 40 = .ok (.dup_x1, 1) := by decide +kernel
theorem d_AL_grow_ILjava_41 : decode b_AL_grow_ILjava 41 = .ok (.putfield 9, 3) := by decide +kernel
theorem d_AL_grow_ILjava_44 : decode b_AL_grow_ILjava 44 = .ok (.areturn, 1) := by decide +kernel
theorem d_AL_grow_ILjava_45 : decode b_AL_grow_ILjava 45 = .ok (.aload_n 0, 1) := by decide +kernel
theorem d_AL_grow_ILjava_46 : decode b_AL_grow_ILjava 46 = .ok (.bipush 10, 2) := by decide +kernel
theorem d_AL_grow_ILjava_48 : decode b_AL_grow_ILjava 48 = .ok (.iload_n 1, 1) := by decide +kernel
theorem d_AL_grow_ILjava_49 : decode b_AL_grow_ILjava 49 = .ok (.invokestatic 79, 3) := by decide +kernel
theorem d_AL_grow_ILjava_52 : decode b_AL_grow_ILjava 52 = .ok (.anewarray 7, 3) := by decide +kernel
theorem d_AL_grow_ILjava_55 : decode b_AL_grow_ILjava 55 = .ok (.dup_x1, 1) := by decide +kernel
theorem d_AL_grow_ILjava_56 : decode b_AL_grow_ILjava 56 = .ok (.putfield 9, 3) := by decide +kernel
theorem d_AL_grow_ILjava_59 : decode b_AL_grow_ILjava 59 = .ok (.areturn, 1) := by decide +kernel
theorem d_Ma_max_0 : decode b_Ma_max 0 = .ok (.iload_n 0, 1) := by decide +kernel
theorem d_Ma_max_1 : decode b_Ma_max 1 = .ok (.iload_n 1, 1) := by decide +kernel
theorem d_Ma_max_2 : decode b_Ma_max 2 = .ok (.if_icmp .lt 7, 3) := by decide +kernel
theorem d_Ma_max_5 : decode b_Ma_max 5 = .ok (.iload_n 0, 1) := by decide +kernel
theorem d_Ma_max_6 : decode b_Ma_max 6 = .ok (.goto 4, 3) := by decide +kernel
theorem d_Ma_max_9 : decode b_Ma_max 9 = .ok (.iload_n 1, 1) := by decide +kernel
theorem d_Ma_max_10 : decode b_Ma_max 10 = .ok (.ireturn, 1) := by decide +kernel
theorem d_Ma_min_0 : decode b_Ma_min 0 = .ok (.iload_n 0, 1) := by decide +kernel
theorem d_Ma_min_1 : decode b_Ma_min 1 = .ok (.iload_n 1, 1) := by decide +kernel
theorem d_Ma_min_2 : decode b_Ma_min 2 = .ok (.if_icmp .gt 7, 3) := by decide +kernel
theorem d_Ma_min_5 : decode b_Ma_min 5 = .ok (.iload_n 0, 1) := by decide +kernel
theorem d_Ma_min_6 : decode b_Ma_min 6 = .ok (.goto 4, 3) := by decide +kernel
theorem d_Ma_min_9 : decode b_Ma_min 9 = .ok (.iload_n 1, 1) := by decide +kernel
theorem d_Ma_min_10 : decode b_Ma_min 10 = .ok (.ireturn, 1) := by decide +kernel
theorem d_Cs_ceiling_0 : decode b_Cs_ceiling 0 = .ok (.aload_n 0, 1) := by decide +kernel
theorem d_Cs_ceiling_1 : decode b_Cs_ceiling 1 = .ok (.getfield 27, 3) := by decide +kernel
theorem d_Cs_ceiling_4 : decode b_Cs_ceiling 4 = .ok (.ifCond .ne 29, 3) := by decide +kernel
theorem d_Cs_ceiling_7 : decode b_Cs_ceiling 7 = .ok (.iload_n 1, 1) := by decide +kernel
theorem d_Cs_ceiling_8 : decode b_Cs_ceiling 8 = .ok (.invokestatic 48, 3) := by decide +kernel
theorem d_Cs_ceiling_11 : decode b_Cs_ceiling 11 = .ok (.ifCond .ne 22, 3) := by decide +kernel
theorem d_Cs_ceiling_14 : decode b_Cs_ceiling 14 = .ok (.iload_n 2, 1) := by decide +kernel
theorem d_Cs_ceiling_15 : decode b_Cs_ceiling 15 = .ok (.iconst 1, 1) := by decide +kernel
theorem d_Cs_ceiling_16 : decode b_Cs_ceiling 16 = .ok (.bipush 10, 2) := by decide +kernel
theorem d_Cs_ceiling_18 : decode b_Cs_ceiling 18 = .ok (.invokestatic 31, 3) := by decide +kernel
theorem d_Cs_ceiling_21 : decode b_Cs_ceiling 21 = .ok (.ifCond .ne 12, 3) := by decide +kernel
theorem d_Cs_ceiling_24 : decode b_Cs_ceiling 24 = .ok (.aload_n 0, 1) := by decide +kernel
theorem d_Cs_ceiling_25 : decode b_Cs_ceiling 25 = .ok (.iload_n 1, 1) := by decide +kernel
theorem d_Cs_ceiling_26 : decode b_Cs_ceiling 26 = .ok (.invokevirtual 52, 3) := by decide +kernel
theorem d_Cs_ceiling_29 : decode b_Cs_ceiling 29 = .ok (.iload_n 2, 1) := by decide +kernel
theorem d_Cs_ceiling_30 : decode b_Cs_ceiling 30 = .ok (.if_icmp .le 5, 3) := by decide +kernel
theorem d_Cs_ceiling_33 : decode b_Cs_ceiling 33 = .ok (.iconst (-1), 1) := by decide +kernel
theorem d_Cs_ceiling_34 : decode b_Cs_ceiling 34 = .ok (.ireturn, 1) := by decide +kernel
theorem d_Cs_ceiling_35 : decode b_Cs_ceiling 35 = .ok (.aload_n 0, 1) := by decide +kernel
theorem d_Cs_ceiling_36 : decode b_Cs_ceiling 36 = .ok (.getfield 16, 3) := by decide +kernel
theorem d_Cs_ceiling_39 : decode b_Cs_ceiling 39 = .ok (.iload_n 1, 1) := by decide +kernel
theorem d_Cs_ceiling_40 : decode b_Cs_ceiling 40 = .ok (.iload_n 2, 1) := by decide +kernel
theorem d_Cs_ceiling_41 : decode b_Cs_ceiling 41 = .ok (.iastore, 1) := by decide +kernel
theorem d_Cs_ceiling_42 : decode b_Cs_ceiling 42 = .ok (.iconst 0, 1) := by decide +kernel
theorem d_Cs_ceiling_43 : decode b_Cs_ceiling 43 = .ok (.ireturn, 1) := by decide +kernel
theorem d_Cs_isNoObject_0 : decode b_Cs_isNoObject 0 = .ok (.iload_n 0, 1) := by decide +kernel
theorem d_Cs_isNoObject_1 : decode b_Cs_isNoObject 1 = .ok (.iconst 0, 1) := by decide +kernel
theorem d_Cs_isNoObject_2 : decode b_Cs_isNoObject 2 = .ok (.iconst 3, 1) := by decide +kernel
theorem d_Cs_isNoObject_3 : decode b_Cs_isNoObject 3 = .ok (.invokestatic 31, 3) := by decide +kernel
theorem d_Cs_isNoObject_6 : decode b_Cs_isNoObject 6 = .ok (.ireturn, 1) := by decide +kernel
theorem d_Cs_greatestPriorityOn_0 : decode b_Cs_greatestPriorityOn 0 = .ok (.iconst 0, 1) := by decide +kernel
theorem d_Cs_greatestPriorityOn_1 : decode b_Cs_greatestPriorityOn 1 = .ok (.istore_n 2, 1) := by decide +kernel
theorem d_Cs_greatestPriorityOn_2 : decode b_Cs_greatestPriorityOn 2 = .ok (.iconst 0, 1) := by decide +kernel
theorem d_Cs_greatestPriorityOn_3 : decode b_Cs_greatestPriorityOn 3 = .ok (.istore_n 3, 1) := by decide +kernel
theorem d_Cs_greatestPriorityOn_4 : decode b_Cs_greatestPriorityOn 4 = .ok (.iload_n 3, 1) := by decide +kernel
theorem d_Cs_greatestPriorityOn_5 : decode b_Cs_greatestPriorityOn 5 = .ok (.aload_n 0, 1) := by decide +kernel
theorem d_Cs_greatestPriorityOn_6 : decode b_Cs_greatestPriorityOn 6 = .ok (.getfield 10, 3) := by decide +kernel
theorem d_Cs_greatestPriorityOn_9 : decode b_Cs_greatestPriorityOn 9 = .ok (.invokevirtual 35, 3) := by decide +kernel
theorem d_Cs_greatestPriorityOn_12 : decode b_Cs_greatestPriorityOn 12 = .ok (.if_icmp .ge 41, 3) := by decide +kernel
theorem d_Cs_greatestPriorityOn_15 : decode b_Cs_greatestPriorityOn 15 = .ok (.aload_n 0, 1) := by decide +kernel
theorem d_Cs_greatestPriorityOn_16 : decode b_Cs_greatestPriorityOn 16 = .ok (.getfield 10, 3) := by decide +kernel
theorem d_Cs_greatestPriorityOn_19 : decode b_Cs_greatestPriorityOn 19 = .ok (.iload_n 3, 1) := by decide +kernel
theorem d_Cs_greatestPriorityOn_20 : decode b_Cs_greatestPriorityOn 20 = .ok (.invokevirtual 59, 3) := by decide +kernel
theorem d_Cs_greatestPriorityOn_23 : decode b_Cs_greatestPriorityOn 23 = .ok (.checkcast 39, 3) := by decide +kernel
theorem d_Cs_greatestPriorityOn_26 : decode b_Cs_greatestPriorityOn 26 = .ok (.astore 4, 2) := by decide +kernel
theorem d_Cs_greatestPriorityOn_28 : decode b_Cs_greatestPriorityOn 28 = .ok (.aload 4, 2) := by decide +kernel
theorem d_Cs_greatestPriorityOn_30 : decode b_Cs_greatestPriorityOn 30 = .ok (.iload_n 1, 1) := by decide +kernel
theorem d_Cs_greatestPriorityOn_31 : decode b_Cs_greatestPriorityOn 31 = .ok (.invokevirtual 213, 3) := by decide +kernel
theorem d_Cs_greatestPriorityOn_34 : decode b_Cs_greatestPriorityOn 34 = .ok (.ifCond .eq 13, 3) := by decide +kernel
theorem d_Cs_greatestPriorityOn_37 : decode b_Cs_greatestPriorityOn 37 = .ok (.iload_n 2, 1) := by decide +kernel
theorem d_Cs_greatestPriorityOn_38 : decode b_Cs_greatestPriorityOn 38 = .ok (.aload 4, 2) := by decide +kernel
theorem d_Cs_greatestPriorityOn_40 : decode b_Cs_greatestPriorityOn 40 = .ok (.getfield 71, 3) := by decide +kernel
theorem d_Cs_greatestPriorityOn_43 : decode b_Cs_greatestPriorityOn 43 = .ok (.invokestatic 178, 3) := by decide +kernel
theorem d_Cs_greatestPriorityOn_46 : decode b_Cs_greatestPriorityOn 46 = .ok (.istore_n 2, 1) := by decide +kernel
theorem d_Cs_greatestPriorityOn_47 : decode b_Cs_greatestPriorityOn 47 = .ok (.iinc 3 1, 3) := by decide +kernel
theorem d_Cs_greatestPriorityOn_50 : decode b_Cs_greatestPriorityOn 50 = .ok (.goto (-46), 3) := by decide +kernel
theorem d_Cs_greatestPriorityOn_53 : decode b_Cs_greatestPriorityOn 53 = .ok (.iload_n 2, 1) := by decide +kernel
theorem d_Cs_greatestPriorityOn_54 : decode b_Cs_greatestPriorityOn 54 = .ok (.ireturn, 1) := by decide +kernel
theorem d_AL_get_0 : decode b_AL_get 0 = .ok (.iload_n 1, 1) := by decide +kernel
theorem d_AL_get_1 : decode b_AL_get 1 = .ok (.aload_n 0, 1) := by decide +kernel
theorem d_AL_get_2 : decode b_AL_get 2 = .ok (.getfield 48, 3) := by decide +kernel
theorem d_AL_get_5 : decode b_AL_get 5 = .ok (.invokestatic 118, 3) := by decide +kernel
theorem d_AL_get_8 : decode b_AL_get 8 = .ok (.pop, 1) := by decide +kernel
theorem d_AL_get_9 : decode b_AL_get 9 = .ok (.aload_n 0, 1) := by decide +kernel
theorem d_AL_get_10 : decode b_AL_get 10 = .ok (.iload_n 1, 1) := by decide +kernel
theorem d_AL_get_11 : decode b_AL_get 11 = .ok (.invokevirtual 123, 3) := by decide +kernel
theorem d_AL_get_14 : decode b_AL_get 14 = .ok (.areturn, 1) := by decide +kernel
theorem d_Ob_checkIndex_0 : decode b_Ob_checkIndex 0 = .ok (.iload_n 0, 1) := by decide +kernel
theorem d_Ob_checkIndex_1 : decode b_Ob_checkIndex 1 = .ok (.iload_n 1, 1) := by decide +kernel
theorem d_Ob_checkIndex_2 : decode b_Ob_checkIndex 2 = .ok (.aconst_null, 1) := by decide +kernel
theorem d_Ob_checkIndex_3 : decode b_Ob_checkIndex 3 = .ok (.invokestatic 105, 3) := by decide +kernel
theorem d_Ob_checkIndex_6 : decode b_Ob_checkIndex 6 = .ok (.ireturn, 1) := by decide +kernel
theorem d_Pc_checkIndex_0 : decode b_Pc_checkIndex 0 = .ok (.iload_n 0, 1) := by decide +kernel
theorem d_Pc_checkIndex_1 : decode b_Pc_checkIndex 1 = .ok (.ifCond .lt 8, 3) := by decide +kernel
theorem d_Pc_checkIndex_4 : decode b_Pc_checkIndex 4 = .ok (.iload_n 0, 1) := by decide +kernel
theorem d_Pc_checkIndex_5 : decode b_Pc_checkIndex 5 = .ok (.iload_n 1, 1) := by decide +kernel
theorem d_Pc_checkIndex_6 : decode b_Pc_checkIndex 6 = .ok (.if_icmp .lt 10, 3) := by decide +kernel
theorem d_Pc_checkIndex_9 : decode b_Pc_checkIndex 9 = .ok (.aload_n 2, 1) := by decide +kernel
theorem d_Pc_checkIndex_10 : decode b_Pc_checkIndex 10 = .ok (.iload_n 0, 1) := by decide +kernel
theorem d_Pc_checkIndex_11 : decode b_Pc_checkIndex 11 = .ok (.iload_n 1, 1) := by decide +kernel
theorem d_Pc_checkIndex_12 : decode b_Pc_checkIndex 12 = .ok (.invokestatic 95, 3) := by decide +kernel
theorem d_Pc_checkIndex_15 : decode b_Pc_checkIndex 15 = .ok (.athrow, 1) := by decide +kernel
theorem d_Pc_checkIndex_16 : decode b_Pc_checkIndex 16 = .ok (.iload_n 0, 1) := by decide +kernel
theorem d_Pc_checkIndex_17 : decode b_Pc_checkIndex 17 = .ok (.ireturn, 1) := by decide +kernel
theorem d_AL_elementData_0 : decode b_AL_elementData 0 = .ok (.aload_n 0, 1) := by decide +kernel
theorem d_AL_elementData_1 : decode b_AL_elementData 1 = .ok (.getfield 9, 3) := by decide +kernel
theorem d_AL_elementData_4 : decode b_AL_elementData 4 = .ok (.iload_n 1, 1) := by decide +kernel
theorem d_AL_elementData_5 : decode b_AL_elementData 5 = .ok (.aaload, 1) := by decide +kernel
theorem d_AL_elementData_6 : decode b_AL_elementData 6 = .ok (.areturn, 1) := by decide +kernel
theorem d_Ta_hasSectionOn_0 : decode b_Ta_hasSectionOn 0 = .ok (.iconst 0, 1) := by decide +kernel
theorem d_Ta_hasSectionOn_1 : decode b_Ta_hasSectionOn 1 = .ok (.istore_n 2, 1) := by decide +kernel
theorem d_Ta_hasSectionOn_2 : decode b_Ta_hasSectionOn 2 = .ok (.iload_n 2, 1) := by decide +kernel
theorem d_Ta_hasSectionOn_3 : decode b_Ta_hasSectionOn 3 = .ok (.aload_n 0, 1) := by decide +kernel
theorem d_Ta_hasSectionOn_4 : decode b_Ta_hasSectionOn 4 = .ok (.getfield 12, 3) := by decide +kernel
theorem d_Ta_hasSectionOn_7 : decode b_Ta_hasSectionOn 7 = .ok (.invokevirtual 56, 3) := by decide +kernel
theorem d_Ta_hasSectionOn_10 : decode b_Ta_hasSectionOn 10 = .ok (.if_icmp .ge 29, 3) := by decide +kernel
theorem d_Ta_hasSectionOn_13 : decode b_Ta_hasSectionOn 13 = .ok (.aload_n 0, 1) := by decide +kernel
theorem d_Ta_hasSectionOn_14 : decode b_Ta_hasSectionOn 14 = .ok (.getfield 12, 3) := by decide +kernel
theorem d_Ta_hasSectionOn_17 : decode b_Ta_hasSectionOn 17 = .ok (.iload_n 2, 1) := by decide +kernel
theorem d_Ta_hasSectionOn_18 : decode b_Ta_hasSectionOn 18 = .ok (.invokevirtual 60, 3) := by decide +kernel
theorem d_Ta_hasSectionOn_21 : decode b_Ta_hasSectionOn 21 = .ok (.checkcast 64, 3) := by decide +kernel
theorem d_Ta_hasSectionOn_24 : decode b_Ta_hasSectionOn 24 = .ok (.getfield 72, 3) := by decide +kernel
theorem d_Ta_hasSectionOn_27 : decode b_Ta_hasSectionOn 27 = .ok (.iload_n 1, 1) := by decide +kernel
theorem d_Ta_hasSectionOn_28 : decode b_Ta_hasSectionOn 28 = .ok (.if_icmp .ne 5, 3) := by decide +kernel
theorem d_Ta_hasSectionOn_31 : decode b_Ta_hasSectionOn 31 = .ok (.iconst 1, 1) := by decide +kernel
theorem d_Ta_hasSectionOn_32 : decode b_Ta_hasSectionOn 32 = .ok (.ireturn, 1) := by decide +kernel
theorem d_Ta_hasSectionOn_33 : decode b_Ta_hasSectionOn 33 = .ok (.iinc 2 1, 3) := by decide +kernel
theorem d_Ta_hasSectionOn_36 : decode b_Ta_hasSectionOn 36 = .ok (.goto (-34), 3) := by decide +kernel
theorem d_Ta_hasSectionOn_39 : decode b_Ta_hasSectionOn 39 = .ok (.iconst 0, 1) := by decide +kernel
theorem d_Ta_hasSectionOn_40 : decode b_Ta_hasSectionOn 40 = .ok (.ireturn, 1) := by decide +kernel
theorem d_Cs_section_0 : decode b_Cs_section 0 = .ok (.aload_n 0, 1) := by decide +kernel
theorem d_Cs_section_1 : decode b_Cs_section 1 = .ok (.getfield 27, 3) := by decide +kernel
theorem d_Cs_section_4 : decode b_Cs_section 4 = .ok (.ifCond .ne 39, 3) := by decide +kernel
theorem d_Cs_section_7 : decode b_Cs_section 7 = .ok (.aload_n 0, 1) := by decide +kernel
theorem d_Cs_section_8 : decode b_Cs_section 8 = .ok (.iload_n 1, 1) := by decide +kernel
theorem d_Cs_section_9 : decode b_Cs_section 9 = .ok (.invokevirtual 56, 3) := by decide +kernel
theorem d_Cs_section_12 : decode b_Cs_section 12 = .ok (.ifCond .ne 31, 3) := by decide +kernel
theorem d_Cs_section_15 : decode b_Cs_section 15 = .ok (.iload_n 2, 1) := by decide +kernel
theorem d_Cs_section_16 : decode b_Cs_section 16 = .ok (.invokestatic 48, 3) := by decide +kernel
theorem d_Cs_section_19 : decode b_Cs_section 19 = .ok (.ifCond .ne 24, 3) := by decide +kernel
theorem d_Cs_section_22 : decode b_Cs_section 22 = .ok (.iload_n 3, 1) := by decide +kernel
theorem d_Cs_section_23 : decode b_Cs_section 23 = .ok (.iconst 0, 1) := by decide +kernel
theorem d_Cs_section_24 : decode b_Cs_section 24 = .ok (.bipush 59, 2) := by decide +kernel
theorem d_Cs_section_26 : decode b_Cs_section 26 = .ok (.invokestatic 31, 3) := by decide +kernel
theorem d_Cs_section_29 : decode b_Cs_section 29 = .ok (.ifCond .ne 14, 3) := by decide +kernel
theorem d_Cs_section_32 : decode b_Cs_section 32 = .ok (.iload 4, 2) := by decide +kernel
theorem d_Cs_section_34 : decode b_Cs_section 34 = .ok (.iconst 1, 1) := by decide +kernel
theorem d_Cs_section_35 : decode b_Cs_section 35 = .ok (.bipush 60, 2) := by decide +kernel
theorem d_Cs_section_37 : decode b_Cs_section 37 = .ok (.invokestatic 31, 3) := by decide +kernel
theorem d_Cs_section_40 : decode b_Cs_section 40 = .ok (.ifCond .eq 5, 3) := by decide +kernel
theorem d_Cs_section_43 : decode b_Cs_section 43 = .ok (.iconst (-1), 1) := by decide +kernel
theorem d_Cs_section_44 : decode b_Cs_section 44 = .ok (.ireturn, 1) := by decide +kernel
theorem d_Cs_section_45 : decode b_Cs_section 45 = .ok (.aload_n 0, 1) := by decide +kernel
theorem d_Cs_section_46 : decode b_Cs_section 46 = .ok (.getfield 10, 3) := by decide +kernel
theorem d_Cs_section_49 : decode b_Cs_section 49 = .ok (.iload_n 1, 1) := by decide +kernel
theorem d_Cs_section_50 : decode b_Cs_section 50 = .ok (.invokevirtual 59, 3) := by decide +kernel
theorem d_Cs_section_53 : decode b_Cs_section 53 = .ok (.checkcast 39, 3) := by decide +kernel
theorem d_Cs_section_56 : decode b_Cs_section 56 = .ok (.astore 5, 2) := by decide +kernel
theorem d_Cs_section_58 : decode b_Cs_section 58 = .ok (.iload_n 3, 1) := by decide +kernel
theorem d_Cs_section_59 : decode b_Cs_section 59 = .ok (.iload 4, 2) := by decide +kernel
theorem d_Cs_section_61 : decode b_Cs_section 61 = .ok (.iadd, 1) := by decide +kernel
theorem d_Cs_section_62 : decode b_Cs_section 62 = .ok (.aload 5, 2) := by decide +kernel
theorem d_Cs_section_64 : decode b_Cs_section 64 = .ok (.getfield 63, 3) := by decide +kernel
theorem d_Cs_section_67 : decode b_Cs_section 67 = .ok (.if_icmp .gt 30, 3) := by decide +kernel
theorem d_Cs_section_70 : decode b_Cs_section 70 = .ok (.aload 5, 2) := by decide +kernel
theorem d_Cs_section_72 : decode b_Cs_section 72 = .ok (.iload_n 3, 1) := by decide +kernel
theorem d_Cs_section_73 : decode b_Cs_section 73 = .ok (.iload_n 3, 1) := by decide +kernel
theorem d_Cs_section_74 : decode b_Cs_section 74 = .ok (.iload 4, 2) := by decide +kernel
theorem d_Cs_section_76 : decode b_Cs_section 76 = .ok (.iadd, 1) := by decide +kernel
theorem d_Cs_section_77 : decode b_Cs_section 77 = .ok (.invokevirtual 67, 3) := by decide +kernel
theorem d_Cs_section_80 : decode b_Cs_section 80 = .ok (.ifCond .ne 17, 3) := by decide +kernel
theorem d_Cs_section_83 : decode b_Cs_section 83 = .ok (.aload_n 0, 1) := by decide +kernel
theorem d_Cs_section_84 : decode b_Cs_section 84 = .ok (.getfield 16, 3) := by decide +kernel
theorem d_Cs_section_87 : decode b_Cs_section 87 = .ok (.iload_n 2, 1) := by decide +kernel
theorem d_Cs_section_88 : decode b_Cs_section 88 = .ok (.iaload, 1) := by decide +kernel
theorem d_Cs_section_89 : decode b_Cs_section 89 = .ok (.aload 5, 2) := by decide +kernel
theorem d_Cs_section_91 : decode b_Cs_section 91 = .ok (.getfield 71, 3) := by decide +kernel
theorem d_Cs_section_94 : decode b_Cs_section 94 = .ok (.if_icmp .ge 5, 3) := by decide +kernel
theorem d_Cs_section_97 : decode b_Cs_section 97 = .ok (.iconst (-1), 1) := by decide +kernel
theorem d_Cs_section_98 : decode b_Cs_section 98 = .ok (.ireturn, 1) := by decide +kernel
theorem d_Cs_section_99 : decode b_Cs_section 99 = .ok (.aload 5, 2) := by decide +kernel
theorem d_Cs_section_101 : decode b_Cs_section 101 = .ok (.getfield 74, 3) := by decide +kernel
theorem d_Cs_section_104 : decode b_Cs_section 104 = .ok (.invokevirtual 35, 3) := by decide +kernel
theorem d_Cs_section_107 : decode b_Cs_section 107 = .ok (.iconst 3, 1) := by decide +kernel
theorem d_Cs_section_108 : decode b_Cs_section 108 = .ok (.if_icmp .lt 6, 3) := by decide +kernel
theorem d_Cs_section_111 : decode b_Cs_section 111 = .ok (.bipush (-2), 2) := by decide +kernel
theorem d_Cs_section_113 : decode b_Cs_section 113 = .ok (.ireturn, 1) := by decide +kernel
theorem d_Cs_section_114 : decode b_Cs_section 114 = .ok (.aload 5, 2) := by decide +kernel
theorem d_Cs_section_116 : decode b_Cs_section 116 = .ok (.getfield 74, 3) := by decide +kernel
theorem d_Cs_section_119 : decode b_Cs_section 119 = .ok (.new 77, 3) := by decide +kernel
theorem d_Cs_section_122 : decode b_Cs_section 122 = .ok (.dup, 1) := by decide +kernel
theorem d_Cs_section_123 : decode b_Cs_section 123 = .ok (.iload_n 2, 1) := by decide +kernel
theorem d_Cs_section_124 : decode b_Cs_section 124 = .ok (.iload_n 3, 1) := by decide +kernel
theorem d_Cs_section_125 : decode b_Cs_section 125 = .ok (.iload 4, 2) := by decide +kernel
theorem d_Cs_section_127 : decode b_Cs_section 127 = .ok (.invokespecial 79, 3) := by decide +kernel
theorem d_Cs_section_130 : decode b_Cs_section 130 = .ok (.invokevirtual 44, 3) := by decide +kernel
theorem d_Cs_section_133 : decode b_Cs_section 133 = .ok (.pop, 1) := by decide +kernel
theorem d_Cs_section_134 : decode b_Cs_section 134 = .ok (.iconst 0, 1) := by decide +kernel
theorem d_Cs_section_135 : decode b_Cs_section 135 = .ok (.ireturn, 1) := by decide +kernel
