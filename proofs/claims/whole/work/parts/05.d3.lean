theorem d_Ta_heldObject_0 : decode b_Ta_heldObject 0 = .ok (.iconst 0, 1) := by decide +kernel
theorem d_Ta_heldObject_1 : decode b_Ta_heldObject 1 = .ok (.istore_n 1, 1) := by decide +kernel
theorem d_Ta_heldObject_2 : decode b_Ta_heldObject 2 = .ok (.iload_n 1, 1) := by decide +kernel
theorem d_Ta_heldObject_3 : decode b_Ta_heldObject 3 = .ok (.aload_n 0, 1) := by decide +kernel
theorem d_Ta_heldObject_4 : decode b_Ta_heldObject 4 = .ok (.getfield 12, 3) := by decide +kernel
theorem d_Ta_heldObject_7 : decode b_Ta_heldObject 7 = .ok (.invokevirtual 56, 3) := by decide +kernel
theorem d_Ta_heldObject_10 : decode b_Ta_heldObject 10 = .ok (.if_icmp .ge 40, 3) := by decide +kernel
theorem d_Ta_heldObject_13 : decode b_Ta_heldObject 13 = .ok (.aload_n 0, 1) := by decide +kernel
theorem d_Ta_heldObject_14 : decode b_Ta_heldObject 14 = .ok (.getfield 12, 3) := by decide +kernel
theorem d_Ta_heldObject_17 : decode b_Ta_heldObject 17 = .ok (.iload_n 1, 1) := by decide +kernel
theorem d_Ta_heldObject_18 : decode b_Ta_heldObject 18 = .ok (.invokevirtual 60, 3) := by decide +kernel
theorem d_Ta_heldObject_21 : decode b_Ta_heldObject 21 = .ok (.checkcast 64, 3) := by decide +kernel
theorem d_Ta_heldObject_24 : decode b_Ta_heldObject 24 = .ok (.astore_n 2, 1) := by decide +kernel
theorem d_Ta_heldObject_25 : decode b_Ta_heldObject 25 = .ok (.aload_n 2, 1) := by decide +kernel
theorem d_Ta_heldObject_26 : decode b_Ta_heldObject 26 = .ok (.aload_n 0, 1) := by decide +kernel
theorem d_Ta_heldObject_27 : decode b_Ta_heldObject 27 = .ok (.getfield 21, 3) := by decide +kernel
theorem d_Ta_heldObject_30 : decode b_Ta_heldObject 30 = .ok (.getfield 49, 3) := by decide +kernel
theorem d_Ta_heldObject_33 : decode b_Ta_heldObject 33 = .ok (.invokevirtual 75, 3) := by decide +kernel
theorem d_Ta_heldObject_36 : decode b_Ta_heldObject 36 = .ok (.ifCond .eq 8, 3) := by decide +kernel
theorem d_Ta_heldObject_39 : decode b_Ta_heldObject 39 = .ok (.aload_n 2, 1) := by decide +kernel
theorem d_Ta_heldObject_40 : decode b_Ta_heldObject 40 = .ok (.getfield 72, 3) := by decide +kernel
theorem d_Ta_heldObject_43 : decode b_Ta_heldObject 43 = .ok (.ireturn, 1) := by decide +kernel
theorem d_Ta_heldObject_44 : decode b_Ta_heldObject 44 = .ok (.iinc 1 1, 3) := by decide +kernel
theorem d_Ta_heldObject_47 : decode b_Ta_heldObject 47 = .ok (.goto (-45), 3) := by decide +kernel
theorem d_Ta_heldObject_50 : decode b_Ta_heldObject 50 = .ok (.bipush (-3), 2) := by decide +kernel
theorem d_Ta_heldObject_52 : decode b_Ta_heldObject 52 = .ok (.ireturn, 1) := by decide +kernel
theorem d_Se_isHeldAfter_0 : decode b_Se_isHeldAfter 0 = .ok (.iload_n 1, 1) := by decide +kernel
theorem d_Se_isHeldAfter_1 : decode b_Se_isHeldAfter 1 = .ok (.aload_n 0, 1) := by decide +kernel
theorem d_Se_isHeldAfter_2 : decode b_Se_isHeldAfter 2 = .ok (.getfield 13, 3) := by decide +kernel
theorem d_Se_isHeldAfter_5 : decode b_Se_isHeldAfter 5 = .ok (.if_icmp .le 20, 3) := by decide +kernel
theorem d_Se_isHeldAfter_8 : decode b_Se_isHeldAfter 8 = .ok (.iload_n 1, 1) := by decide +kernel
theorem d_Se_isHeldAfter_9 : decode b_Se_isHeldAfter 9 = .ok (.aload_n 0, 1) := by decide +kernel
theorem d_Se_isHeldAfter_10 : decode b_Se_isHeldAfter 10 = .ok (.getfield 13, 3) := by decide +kernel
theorem d_Se_isHeldAfter_13 : decode b_Se_isHeldAfter 13 = .ok (.aload_n 0, 1) := by decide +kernel
theorem d_Se_isHeldAfter_14 : decode b_Se_isHeldAfter 14 = .ok (.getfield 16, 3) := by decide +kernel
theorem d_Se_isHeldAfter_17 : decode b_Se_isHeldAfter 17 = .ok (.iadd, 1) := by decide +kernel
theorem d_Se_isHeldAfter_18 : decode b_Se_isHeldAfter 18 = .ok (.if_icmp .ge 7, 3) := by decide +kernel
theorem d_Se_isHeldAfter_21 : decode b_Se_isHeldAfter 21 = .ok (.iconst 1, 1) := by decide +kernel
theorem d_Se_isHeldAfter_22 : decode b_Se_isHeldAfter 22 = .ok (.goto 4, 3) := by decide +kernel
theorem d_Se_isHeldAfter_25 : decode b_Se_isHeldAfter 25 = .ok (.iconst 0, 1) := by decide +kernel
theorem d_Se_isHeldAfter_26 : decode b_Se_isHeldAfter 26 = .ok (.ireturn, 1) := by decide +kernel
theorem d_Jq_releaseOfFront_0 : decode b_Jq_releaseOfFront 0 = .ok (.aload_n 0, 1) := by decide +kernel
theorem d_Jq_releaseOfFront_1 : decode b_Jq_releaseOfFront 1 = .ok (.getfield 9, 3) := by decide +kernel
theorem d_Jq_releaseOfFront_4 : decode b_Jq_releaseOfFront 4 = .ok (.aload_n 0, 1) := by decide +kernel
theorem d_Jq_releaseOfFront_5 : decode b_Jq_releaseOfFront 5 = .ok (.getfield 25, 3) := by decide +kernel
theorem d_Jq_releaseOfFront_8 : decode b_Jq_releaseOfFront 8 = .ok (.iaload, 1) := by decide +kernel
theorem d_Jq_releaseOfFront_9 : decode b_Jq_releaseOfFront 9 = .ok (.ireturn, 1) := by decide +kernel
theorem d_Hi_pass_0 : decode b_Hi_pass 0 = .ok (.aload_n 0, 1) := by decide +kernel
theorem d_Hi_pass_1 : decode b_Hi_pass 1 = .ok (.getfield 9, 3) := by decide +kernel
theorem d_Hi_pass_4 : decode b_Hi_pass 4 = .ok (.aload_n 0, 1) := by decide +kernel
theorem d_Hi_pass_5 : decode b_Hi_pass 5 = .ok (.getfield 22, 3) := by decide +kernel
theorem d_Hi_pass_8 : decode b_Hi_pass 8 = .ok (.bipush 64, 2) := by decide +kernel
theorem d_Hi_pass_10 : decode b_Hi_pass 10 = .ok (.invokestatic 25, 3) := by decide +kernel
theorem d_Hi_pass_13 : decode b_Hi_pass 13 = .ok (.iload_n 1, 1) := by decide +kernel
theorem d_Hi_pass_14 : decode b_Hi_pass 14 = .ok (.iastore, 1) := by decide +kernel
theorem d_Hi_pass_15 : decode b_Hi_pass 15 = .ok (.aload_n 0, 1) := by decide +kernel
theorem d_Hi_pass_16 : decode b_Hi_pass 16 = .ok (.dup, 1) := by decide +kernel
theorem d_Hi_pass_17 : decode b_Hi_pass 17 = .ok (.getfield 22, 3) := by decide +kernel
theorem d_Hi_pass_20 : decode b_Hi_pass 20 = .ok (.iconst 1, 1) := by decide +kernel
theorem d_Hi_pass_21 : decode b_Hi_pass 21 = .ok (.iadd, 1) := by decide +kernel
theorem d_Hi_pass_22 : decode b_Hi_pass 22 = .ok (.putfield 22, 3) := by decide +kernel
theorem d_Hi_pass_25 : decode b_Hi_pass 25 = .ok (.aload_n 0, 1) := by decide +kernel
theorem d_Hi_pass_26 : decode b_Hi_pass 26 = .ok (.iload_n 1, 1) := by decide +kernel
theorem d_Hi_pass_27 : decode b_Hi_pass 27 = .ok (.putfield 15, 3) := by decide +kernel
theorem d_Hi_pass_30 : decode b_Hi_pass 30 = .ok (.iload_n 1, 1) := by decide +kernel
theorem d_Hi_pass_31 : decode b_Hi_pass 31 = .ok (.bipush (-3), 2) := by decide +kernel
theorem d_Hi_pass_33 : decode b_Hi_pass 33 = .ok (.if_icmp .ne 16, 3) := by decide +kernel
theorem d_Hi_pass_36 : decode b_Hi_pass 36 = .ok (.aload_n 0, 1) := by decide +kernel
theorem d_Hi_pass_37 : decode b_Hi_pass 37 = .ok (.dup, 1) := by decide +kernel
theorem d_Hi_pass_38 : decode b_Hi_pass 38 = .ok (.getfield 31, 3) := by decide +kernel
theorem d_Hi_pass_41 : decode b_Hi_pass 41 = .ok (.iconst 1, 1) := by decide +kernel
theorem d_Hi_pass_42 : decode b_Hi_pass 42 = .ok (.iadd, 1) := by decide +kernel
theorem d_Hi_pass_43 : decode b_Hi_pass 43 = .ok (.putfield 31, 3) := by decide +kernel
theorem d_Hi_pass_46 : decode b_Hi_pass 46 = .ok (.goto 26, 3) := by decide +kernel
theorem d_Hi_pass_49 : decode b_Hi_pass 49 = .ok (.iload_n 1, 1) := by decide +kernel
theorem d_Hi_pass_50 : decode b_Hi_pass 50 = .ok (.aload_n 0, 1) := by decide +kernel
theorem d_Hi_pass_51 : decode b_Hi_pass 51 = .ok (.getfield 19, 3) := by decide +kernel
theorem d_Hi_pass_54 : decode b_Hi_pass 54 = .ok (.if_icmp .eq 18, 3) := by decide +kernel
theorem d_Hi_pass_57 : decode b_Hi_pass 57 = .ok (.aload_n 0, 1) := by decide +kernel
theorem d_Hi_pass_58 : decode b_Hi_pass 58 = .ok (.dup, 1) := by decide +kernel
theorem d_Hi_pass_59 : decode b_Hi_pass 59 = .ok (.getfield 34, 3) := by decide +kernel
theorem d_Hi_pass_62 : decode b_Hi_pass 62 = .ok (.iconst 1, 1) := by decide +kernel
theorem d_Hi_pass_63 : decode b_Hi_pass 63 = .ok (.iadd, 1) := by decide +kernel
theorem d_Hi_pass_64 : decode b_Hi_pass 64 = .ok (.putfield 34, 3) := by decide +kernel
theorem d_Hi_pass_67 : decode b_Hi_pass 67 = .ok (.aload_n 0, 1) := by decide +kernel
theorem d_Hi_pass_68 : decode b_Hi_pass 68 = .ok (.iload_n 1, 1) := by decide +kernel
theorem d_Hi_pass_69 : decode b_Hi_pass 69 = .ok (.putfield 19, 3) := by decide +kernel
theorem d_Hi_pass_72 : decode b_Hi_pass 72 = .ok (.return_, 1) := by decide +kernel
theorem d_Ma_floorMod_0 : decode b_Ma_floorMod 0 = .ok (.iload_n 0, 1) := by decide +kernel
theorem d_Ma_floorMod_1 : decode b_Ma_floorMod 1 = .ok (.iload_n 1, 1) := by decide +kernel
theorem d_Ma_floorMod_2 : decode b_Ma_floorMod 2 = .ok (.irem, 1) := by decide +kernel
theorem d_Ma_floorMod_3 : decode b_Ma_floorMod 3 = .ok (.istore_n 2, 1) := by decide +kernel
theorem d_Ma_floorMod_4 : decode b_Ma_floorMod 4 = .ok (.iload_n 0, 1) := by decide +kernel
theorem d_Ma_floorMod_5 : decode b_Ma_floorMod 5 = .ok (.iload_n 1, 1) := by decide +kernel
theorem d_Ma_floorMod_6 : decode b_Ma_floorMod 6 = .ok (.ixor, 1) := by decide +kernel
theorem d_Ma_floorMod_7 : decode b_Ma_floorMod 7 = .ok (.ifCond .ge 11, 3) := by decide +kernel
theorem d_Ma_floorMod_10 : decode b_Ma_floorMod 10 = .ok (.iload_n 2, 1) := by decide +kernel
theorem d_Ma_floorMod_11 : decode b_Ma_floorMod 11 = .ok (.ifCond .eq 7, 3) := by decide +kernel
theorem d_Ma_floorMod_14 : decode b_Ma_floorMod 14 = .ok (.iload_n 2, 1) := by decide +kernel
theorem d_Ma_floorMod_15 : decode b_Ma_floorMod 15 = .ok (.iload_n 1, 1) := by decide +kernel
theorem d_Ma_floorMod_16 : decode b_Ma_floorMod 16 = .ok (.iadd, 1) := by decide +kernel
theorem d_Ma_floorMod_17 : decode b_Ma_floorMod 17 = .ok (.ireturn, 1) := by decide +kernel
theorem d_Ma_floorMod_18 : decode b_Ma_floorMod 18 = .ok (.iload_n 2, 1) := by decide +kernel
theorem d_Ma_floorMod_19 : decode b_Ma_floorMod 19 = .ok (.ireturn, 1) := by decide +kernel
theorem d_Ta_doUnit_0 : decode b_Ta_doUnit 0 = .ok (.aload_n 0, 1) := by decide +kernel
theorem d_Ta_doUnit_1 : decode b_Ta_doUnit 1 = .ok (.getfield 21, 3) := by decide +kernel
theorem d_Ta_doUnit_4 : decode b_Ta_doUnit 4 = .ok (.dup, 1) := by decide +kernel
theorem d_Ta_doUnit_5 : decode b_Ta_doUnit 5 = .ok (.getfield 49, 3) := by decide +kernel
theorem d_Ta_doUnit_8 : decode b_Ta_doUnit 8 = .ok (.iconst 1, 1) := by decide +kernel
theorem d_Ta_doUnit_9 : decode b_Ta_doUnit 9 = .ok (.iadd, 1) := by decide +kernel
theorem d_Ta_doUnit_10 : decode b_Ta_doUnit 10 = .ok (.putfield 49, 3) := by decide +kernel
theorem d_Ta_doUnit_13 : decode b_Ta_doUnit 13 = .ok (.aload_n 0, 1) := by decide +kernel
theorem d_Ta_doUnit_14 : decode b_Ta_doUnit 14 = .ok (.getfield 21, 3) := by decide +kernel
theorem d_Ta_doUnit_17 : decode b_Ta_doUnit 17 = .ok (.getfield 49, 3) := by decide +kernel
theorem d_Ta_doUnit_20 : decode b_Ta_doUnit 20 = .ok (.aload_n 0, 1) := by decide +kernel
theorem d_Ta_doUnit_21 : decode b_Ta_doUnit 21 = .ok (.getfield 29, 3) := by decide +kernel
theorem d_Ta_doUnit_24 : decode b_Ta_doUnit 24 = .ok (.if_icmp .lt 15, 3) := by decide +kernel
theorem d_Ta_doUnit_27 : decode b_Ta_doUnit 27 = .ok (.aload_n 0, 1) := by decide +kernel
theorem d_Ta_doUnit_28 : decode b_Ta_doUnit 28 = .ok (.getfield 21, 3) := by decide +kernel
theorem d_Ta_doUnit_31 : decode b_Ta_doUnit 31 = .ok (.iload_n 1, 1) := by decide +kernel
theorem d_Ta_doUnit_32 : decode b_Ta_doUnit 32 = .ok (.aload_n 0, 1) := by decide +kernel
theorem d_Ta_doUnit_33 : decode b_Ta_doUnit 33 = .ok (.getfield 32, 3) := by decide +kernel
theorem d_Ta_doUnit_36 : decode b_Ta_doUnit 36 = .ok (.invokevirtual 52, 3) := by decide +kernel
theorem d_Ta_doUnit_39 : decode b_Ta_doUnit 39 = .ok (.return_, 1) := by decide +kernel
theorem d_Jq_finishFront_0 : decode b_Jq_finishFront 0 = .ok (.iload_n 1, 1) := by decide +kernel
theorem d_Jq_finishFront_1 : decode b_Jq_finishFront 1 = .ok (.aload_n 0, 1) := by decide +kernel
theorem d_Jq_finishFront_2 : decode b_Jq_finishFront 2 = .ok (.invokevirtual 28, 3) := by decide +kernel
theorem d_Jq_finishFront_5 : decode b_Jq_finishFront 5 = .ok (.isub, 1) := by decide +kernel
theorem d_Jq_finishFront_6 : decode b_Jq_finishFront 6 = .ok (.istore_n 3, 1) := by decide +kernel
theorem d_Jq_finishFront_7 : decode b_Jq_finishFront 7 = .ok (.aload_n 0, 1) := by decide +kernel
theorem d_Jq_finishFront_8 : decode b_Jq_finishFront 8 = .ok (.aload_n 0, 1) := by decide +kernel
theorem d_Jq_finishFront_9 : decode b_Jq_finishFront 9 = .ok (.getfield 32, 3) := by decide +kernel
theorem d_Jq_finishFront_12 : decode b_Jq_finishFront 12 = .ok (.iload_n 3, 1) := by decide +kernel
theorem d_Jq_finishFront_13 : decode b_Jq_finishFront 13 = .ok (.invokestatic 35, 3) := by decide +kernel
theorem d_Jq_finishFront_16 : decode b_Jq_finishFront 16 = .ok (.putfield 32, 3) := by decide +kernel
theorem d_Jq_finishFront_19 : decode b_Jq_finishFront 19 = .ok (.iload_n 3, 1) := by decide +kernel
theorem d_Jq_finishFront_20 : decode b_Jq_finishFront 20 = .ok (.iload_n 2, 1) := by decide +kernel
theorem d_Jq_finishFront_21 : decode b_Jq_finishFront 21 = .ok (.if_icmp .le 13, 3) := by decide +kernel
theorem d_Jq_finishFront_24 : decode b_Jq_finishFront 24 = .ok (.aload_n 0, 1) := by decide +kernel
theorem d_Jq_finishFront_25 : decode b_Jq_finishFront 25 = .ok (.dup, 1) := by decide +kernel
theorem d_Jq_finishFront_26 : decode b_Jq_finishFront 26 = .ok (.getfield 41, 3) := by decide +kernel
theorem d_Jq_finishFront_29 : decode b_Jq_finishFront 29 = .ok (.iconst 1, 1) := by decide +kernel
theorem d_Jq_finishFront_30 : decode b_Jq_finishFront 30 = .ok (.iadd, 1) := by decide +kernel
theorem d_Jq_finishFront_31 : decode b_Jq_finishFront 31 = .ok (.putfield 41, 3) := by decide +kernel
theorem d_Jq_finishFront_34 : decode b_Jq_finishFront 34 = .ok (.aload_n 0, 1) := by decide +kernel
theorem d_Jq_finishFront_35 : decode b_Jq_finishFront 35 = .ok (.aload_n 0, 1) := by decide +kernel
theorem d_Jq_finishFront_36 : decode b_Jq_finishFront 36 = .ok (.getfield 25, 3) := by decide +kernel
theorem d_Jq_finishFront_39 : decode b_Jq_finishFront 39 = .ok (.iconst 1, 1) := by decide +kernel
theorem d_Jq_finishFront_40 : decode b_Jq_finishFront 40 = .ok (.iadd, 1) := by decide +kernel
theorem d_Jq_finishFront_41 : decode b_Jq_finishFront 41 = .ok (.bipush 8, 2) := by decide +kernel
theorem d_Jq_finishFront_43 : decode b_Jq_finishFront 43 = .ok (.irem, 1) := by decide +kernel
theorem d_Jq_finishFront_44 : decode b_Jq_finishFront 44 = .ok (.putfield 25, 3) := by decide +kernel
theorem d_Jq_finishFront_47 : decode b_Jq_finishFront 47 = .ok (.aload_n 0, 1) := by decide +kernel
theorem d_Jq_finishFront_48 : decode b_Jq_finishFront 48 = .ok (.dup, 1) := by decide +kernel
theorem d_Jq_finishFront_49 : decode b_Jq_finishFront 49 = .ok (.getfield 15, 3) := by decide +kernel
theorem d_Jq_finishFront_52 : decode b_Jq_finishFront 52 = .ok (.iconst 1, 1) := by decide +kernel
theorem d_Jq_finishFront_53 : decode b_Jq_finishFront 53 = .ok (.isub, 1) := by decide +kernel
theorem d_Jq_finishFront_54 : decode b_Jq_finishFront 54 = .ok (.putfield 15, 3) := by decide +kernel
theorem d_Jq_finishFront_57 : decode b_Jq_finishFront 57 = .ok (.aload_n 0, 1) := by decide +kernel
theorem d_Jq_finishFront_58 : decode b_Jq_finishFront 58 = .ok (.iconst 0, 1) := by decide +kernel
theorem d_Jq_finishFront_59 : decode b_Jq_finishFront 59 = .ok (.putfield 44, 3) := by decide +kernel
theorem d_Jq_finishFront_62 : decode b_Jq_finishFront 62 = .ok (.return_, 1) := by decide +kernel
theorem d_Cs_ran_0 : decode b_Cs_ran 0 = .ok (.aload_n 0, 1) := by decide +kernel
theorem d_Cs_ran_1 : decode b_Cs_ran 1 = .ok (.getfield 23, 3) := by decide +kernel
theorem d_Cs_ran_4 : decode b_Cs_ran 4 = .ok (.getfield 117, 3) := by decide +kernel
theorem d_Cs_ran_7 : decode b_Cs_ran 7 = .ok (.ireturn, 1) := by decide +kernel
theorem d_Cs_tell_0 : decode b_Cs_tell 0 = .ok (.aload_n 0, 1) := by decide +kernel
theorem d_Cs_tell_1 : decode b_Cs_tell 1 = .ok (.iload_n 1, 1) := by decide +kernel
theorem d_Cs_tell_2 : decode b_Cs_tell 2 = .ok (.invokevirtual 56, 3) := by decide +kernel
theorem d_Cs_tell_5 : decode b_Cs_tell 5 = .ok (.ifCond .eq 5, 3) := by decide +kernel
theorem d_Cs_tell_8 : decode b_Cs_tell 8 = .ok (.iconst (-1), 1) := by decide +kernel
theorem d_Cs_tell_9 : decode b_Cs_tell 9 = .ok (.ireturn, 1) := by decide +kernel
theorem d_Cs_tell_10 : decode b_Cs_tell 10 = .ok (.aload_n 0, 1) := by decide +kernel
theorem d_Cs_tell_11 : decode b_Cs_tell 11 = .ok (.getfield 10, 3) := by decide +kernel
theorem d_Cs_tell_14 : decode b_Cs_tell 14 = .ok (.iload_n 1, 1) := by decide +kernel
theorem d_Cs_tell_15 : decode b_Cs_tell 15 = .ok (.invokevirtual 59, 3) := by decide +kernel
theorem d_Cs_tell_18 : decode b_Cs_tell 18 = .ok (.checkcast 39, 3) := by decide +kernel
theorem d_Cs_tell_21 : decode b_Cs_tell 21 = .ok (.astore_n 3, 1) := by decide +kernel
theorem d_Cs_tell_22 : decode b_Cs_tell 22 = .ok (.aload_n 3, 1) := by decide +kernel
theorem d_Cs_tell_23 : decode b_Cs_tell 23 = .ok (.getfield 89, 3) := by decide +kernel
theorem d_Cs_tell_26 : decode b_Cs_tell 26 = .ok (.astore 4, 2) := by decide +kernel
theorem d_Cs_tell_28 : decode b_Cs_tell 28 = .ok (.iload_n 2, 1) := by decide +kernel
theorem d_Cs_tell_29 : decode b_Cs_tell 29 = .ok (.tableswitch 141 0 6 #[43, 49, 61, 78, 84, 103, 122], 43) := by decide +kernel
theorem d_Cs_tell_72 : decode b_Cs_tell 72 = .ok (.aload 4, 2) := by decide +kernel
theorem d_Cs_tell_74 : decode b_Cs_tell 74 = .ok (.getfield 120, 3) := by decide +kernel
theorem d_Cs_tell_77 : decode b_Cs_tell 77 = .ok (.ireturn, 1) := by decide +kernel
theorem d_Cs_tell_78 : decode b_Cs_tell 78 = .ok (.aload 4, 2) := by decide +kernel
theorem d_Cs_tell_80 : decode b_Cs_tell 80 = .ok (.getfield 120, 3) := by decide +kernel
theorem d_Cs_tell_83 : decode b_Cs_tell 83 = .ok (.aload 4, 2) := by decide +kernel
theorem d_Cs_tell_85 : decode b_Cs_tell 85 = .ok (.getfield 123, 3) := by decide +kernel
theorem d_Cs_tell_88 : decode b_Cs_tell 88 = .ok (.isub, 1) := by decide +kernel
theorem d_Cs_tell_89 : decode b_Cs_tell 89 = .ok (.ireturn, 1) := by decide +kernel
theorem d_Cs_tell_90 : decode b_Cs_tell 90 = .ok (.aload 4, 2) := by decide +kernel
theorem d_Cs_tell_92 : decode b_Cs_tell 92 = .ok (.aload_n 0, 1) := by decide +kernel
theorem d_Cs_tell_93 : decode b_Cs_tell 93 = .ok (.getfield 23, 3) := by decide +kernel
theorem d_Cs_tell_96 : decode b_Cs_tell 96 = .ok (.getfield 96, 3) := by decide +kernel
theorem d_Cs_tell_99 : decode b_Cs_tell 99 = .ok (.aload_n 3, 1) := by decide +kernel
theorem d_Cs_tell_100 : decode b_Cs_tell 100 = .ok (.getfield 126, 3) := by decide +kernel
theorem d_Cs_tell_103 : decode b_Cs_tell 103 = .ok (.invokevirtual 129, 3) := by decide +kernel
theorem d_Cs_tell_106 : decode b_Cs_tell 106 = .ok (.ireturn, 1) := by decide +kernel
theorem d_Cs_tell_107 : decode b_Cs_tell 107 = .ok (.aload 4, 2) := by decide +kernel
theorem d_Cs_tell_109 : decode b_Cs_tell 109 = .ok (.getfield 133, 3) := by decide +kernel
theorem d_Cs_tell_112 : decode b_Cs_tell 112 = .ok (.ireturn, 1) := by decide +kernel
theorem d_Cs_tell_113 : decode b_Cs_tell 113 = .ok (.aload 4, 2) := by decide +kernel
theorem d_Cs_tell_115 : decode b_Cs_tell 115 = .ok (.invokevirtual 136, 3) := by decide +kernel
theorem d_Cs_tell_118 : decode b_Cs_tell 118 = .ok (.ifCond .eq 8, 3) := by decide +kernel
theorem d_Cs_tell_121 : decode b_Cs_tell 121 = .ok (.bipush (-3), 2) := by decide +kernel
theorem d_Cs_tell_123 : decode b_Cs_tell 123 = .ok (.goto 8, 3) := by decide +kernel
theorem d_Cs_tell_126 : decode b_Cs_tell 126 = .ok (.aload 4, 2) := by decide +kernel
theorem d_Cs_tell_128 : decode b_Cs_tell 128 = .ok (.getfield 137, 3) := by decide +kernel
theorem d_Cs_tell_131 : decode b_Cs_tell 131 = .ok (.ireturn, 1) := by decide +kernel
theorem d_Cs_tell_132 : decode b_Cs_tell 132 = .ok (.aload 4, 2) := by decide +kernel
theorem d_Cs_tell_134 : decode b_Cs_tell 134 = .ok (.invokevirtual 136, 3) := by decide +kernel
theorem d_Cs_tell_137 : decode b_Cs_tell 137 = .ok (.ifCond .eq 8, 3) := by decide +kernel
theorem d_Cs_tell_140 : decode b_Cs_tell 140 = .ok (.bipush (-3), 2) := by decide +kernel
theorem d_Cs_tell_142 : decode b_Cs_tell 142 = .ok (.goto 8, 3) := by decide +kernel
theorem d_Cs_tell_145 : decode b_Cs_tell 145 = .ok (.aload_n 0, 1) := by decide +kernel
theorem d_Cs_tell_146 : decode b_Cs_tell 146 = .ok (.aload_n 3, 1) := by decide +kernel
theorem d_Cs_tell_147 : decode b_Cs_tell 147 = .ok (.invokevirtual 140, 3) := by decide +kernel
theorem d_Cs_tell_150 : decode b_Cs_tell 150 = .ok (.ireturn, 1) := by decide +kernel
theorem d_Cs_tell_151 : decode b_Cs_tell 151 = .ok (.aload 4, 2) := by decide +kernel
theorem d_Cs_tell_153 : decode b_Cs_tell 153 = .ok (.invokevirtual 136, 3) := by decide +kernel
theorem d_Cs_tell_156 : decode b_Cs_tell 156 = .ok (.ifCond .eq 8, 3) := by decide +kernel
theorem d_Cs_tell_159 : decode b_Cs_tell 159 = .ok (.bipush (-3), 2) := by decide +kernel
theorem d_Cs_tell_161 : decode b_Cs_tell 161 = .ok (.goto 8, 3) := by decide +kernel
theorem d_Cs_tell_164 : decode b_Cs_tell 164 = .ok (.aload 4, 2) := by decide +kernel
theorem d_Cs_tell_166 : decode b_Cs_tell 166 = .ok (.invokevirtual 144, 3) := by decide +kernel
theorem d_Cs_tell_169 : decode b_Cs_tell 169 = .ok (.ireturn, 1) := by decide +kernel
theorem d_Cs_tell_170 : decode b_Cs_tell 170 = .ok (.iconst (-1), 1) := by decide +kernel
theorem d_Cs_tell_171 : decode b_Cs_tell 171 = .ok (.ireturn, 1) := by decide +kernel
theorem d_Jq_lateAt_0 : decode b_Jq_lateAt 0 = .ok (.aload_n 0, 1) := by decide +kernel
theorem d_Jq_lateAt_1 : decode b_Jq_lateAt 1 = .ok (.getfield 41, 3) := by decide +kernel
theorem d_Jq_lateAt_4 : decode b_Jq_lateAt 4 = .ok (.istore_n 3, 1) := by decide +kernel
theorem d_Jq_lateAt_5 : decode b_Jq_lateAt 5 = .ok (.iconst 0, 1) := by decide +kernel
theorem d_Jq_lateAt_6 : decode b_Jq_lateAt 6 = .ok (.istore 4, 2) := by decide +kernel
theorem d_Jq_lateAt_8 : decode b_Jq_lateAt 8 = .ok (.iload 4, 2) := by decide +kernel
theorem d_Jq_lateAt_10 : decode b_Jq_lateAt 10 = .ok (.aload_n 0, 1) := by decide +kernel
theorem d_Jq_lateAt_11 : decode b_Jq_lateAt 11 = .ok (.getfield 15, 3) := by decide +kernel
theorem d_Jq_lateAt_14 : decode b_Jq_lateAt 14 = .ok (.if_icmp .ge 33, 3) := by decide +kernel
theorem d_Jq_lateAt_17 : decode b_Jq_lateAt 17 = .ok (.iload_n 1, 1) := by decide +kernel
theorem d_Jq_lateAt_18 : decode b_Jq_lateAt 18 = .ok (.aload_n 0, 1) := by decide +kernel
theorem d_Jq_lateAt_19 : decode b_Jq_lateAt 19 = .ok (.getfield 9, 3) := by decide +kernel
theorem d_Jq_lateAt_22 : decode b_Jq_lateAt 22 = .ok (.aload_n 0, 1) := by decide +kernel
theorem d_Jq_lateAt_23 : decode b_Jq_lateAt 23 = .ok (.getfield 25, 3) := by decide +kernel
theorem d_Jq_lateAt_26 : decode b_Jq_lateAt 26 = .ok (.iload 4, 2) := by decide +kernel
theorem d_Jq_lateAt_28 : decode b_Jq_lateAt 28 = .ok (.iadd, 1) := by decide +kernel
theorem d_Jq_lateAt_29 : decode b_Jq_lateAt 29 = .ok (.bipush 8, 2) := by decide +kernel
theorem d_Jq_lateAt_31 : decode b_Jq_lateAt 31 = .ok (.irem, 1) := by decide +kernel
theorem d_Jq_lateAt_32 : decode b_Jq_lateAt 32 = .ok (.iaload, 1) := by decide +kernel
theorem d_Jq_lateAt_33 : decode b_Jq_lateAt 33 = .ok (.isub, 1) := by decide +kernel
theorem d_Jq_lateAt_34 : decode b_Jq_lateAt 34 = .ok (.iload_n 2, 1) := by decide +kernel
theorem d_Jq_lateAt_35 : decode b_Jq_lateAt 35 = .ok (.if_icmp .lt 6, 3) := by decide +kernel
theorem d_Jq_lateAt_38 : decode b_Jq_lateAt 38 = .ok (.iinc 3 1, 3) := by decide +kernel
theorem d_Jq_lateAt_41 : decode b_Jq_lateAt 41 = .ok (.iinc 4 1, 3) := by decide +kernel
theorem d_Jq_lateAt_44 : decode b_Jq_lateAt 44 = .ok (.goto (-36), 3) := by decide +kernel
theorem d_Jq_lateAt_47 : decode b_Jq_lateAt 47 = .ok (.iload_n 3, 1) := by decide +kernel
theorem d_Jq_lateAt_48 : decode b_Jq_lateAt 48 = .ok (.ireturn, 1) := by decide +kernel
theorem d_Cs_holder_0 : decode b_Cs_holder 0 = .ok (.iload_n 1, 1) := by decide +kernel
theorem d_Cs_holder_1 : decode b_Cs_holder 1 = .ok (.invokestatic 48, 3) := by decide +kernel
theorem d_Cs_holder_4 : decode b_Cs_holder 4 = .ok (.ifCond .eq 5, 3) := by decide +kernel
theorem d_Cs_holder_7 : decode b_Cs_holder 7 = .ok (.iconst (-1), 1) := by decide +kernel
theorem d_Cs_holder_8 : decode b_Cs_holder 8 = .ok (.ireturn, 1) := by decide +kernel
theorem d_Cs_holder_9 : decode b_Cs_holder 9 = .ok (.iconst 0, 1) := by decide +kernel
theorem d_Cs_holder_10 : decode b_Cs_holder 10 = .ok (.istore_n 2, 1) := by decide +kernel
theorem d_Cs_holder_11 : decode b_Cs_holder 11 = .ok (.iload_n 2, 1) := by decide +kernel
theorem d_Cs_holder_12 : decode b_Cs_holder 12 = .ok (.aload_n 0, 1) := by decide +kernel
theorem d_Cs_holder_13 : decode b_Cs_holder 13 = .ok (.getfield 10, 3) := by decide +kernel
theorem d_Cs_holder_16 : decode b_Cs_holder 16 = .ok (.invokevirtual 35, 3) := by decide +kernel
theorem d_Cs_holder_19 : decode b_Cs_holder 19 = .ok (.if_icmp .ge 29, 3) := by decide +kernel
theorem d_Cs_holder_22 : decode b_Cs_holder 22 = .ok (.aload_n 0, 1) := by decide +kernel
theorem d_Cs_holder_23 : decode b_Cs_holder 23 = .ok (.getfield 10, 3) := by decide +kernel
theorem d_Cs_holder_26 : decode b_Cs_holder 26 = .ok (.iload_n 2, 1) := by decide +kernel
theorem d_Cs_holder_27 : decode b_Cs_holder 27 = .ok (.invokevirtual 59, 3) := by decide +kernel
theorem d_Cs_holder_30 : decode b_Cs_holder 30 = .ok (.checkcast 39, 3) := by decide +kernel
theorem d_Cs_holder_33 : decode b_Cs_holder 33 = .ok (.invokevirtual 147, 3) := by decide +kernel
theorem d_Cs_holder_36 : decode b_Cs_holder 36 = .ok (.iload_n 1, 1) := by decide +kernel
theorem d_Cs_holder_37 : decode b_Cs_holder 37 = .ok (.if_icmp .ne 5, 3) := by decide +kernel
theorem d_Cs_holder_40 : decode b_Cs_holder 40 = .ok (.iload_n 2, 1) := by decide +kernel
theorem d_Cs_holder_41 : decode b_Cs_holder 41 = .ok (.ireturn, 1) := by decide +kernel
theorem d_Cs_holder_42 : decode b_Cs_holder 42 = .ok (.iinc 2 1, 3) := by decide +kernel
theorem d_Cs_holder_45 : decode b_Cs_holder 45 = .ok (.goto (-34), 3) := by decide +kernel
theorem d_Cs_holder_48 : decode b_Cs_holder 48 = .ok (.bipush (-3), 2) := by decide +kernel
theorem d_Cs_holder_50 : decode b_Cs_holder 50 = .ok (.ireturn, 1) := by decide +kernel
theorem d_Cs_timeline_0 : decode b_Cs_timeline 0 = .ok (.aload_n 0, 1) := by decide +kernel
theorem d_Cs_timeline_1 : decode b_Cs_timeline 1 = .ok (.getfield 23, 3) := by decide +kernel
theorem d_Cs_timeline_4 : decode b_Cs_timeline 4 = .ok (.iload_n 1, 1) := by decide +kernel
theorem d_Cs_timeline_5 : decode b_Cs_timeline 5 = .ok (.invokevirtual 150, 3) := by decide +kernel
theorem d_Cs_timeline_8 : decode b_Cs_timeline 8 = .ok (.ifCond .eq 14, 3) := by decide +kernel
theorem d_Cs_timeline_11 : decode b_Cs_timeline 11 = .ok (.aload_n 0, 1) := by decide +kernel
theorem d_Cs_timeline_12 : decode b_Cs_timeline 12 = .ok (.getfield 23, 3) := by decide +kernel
theorem d_Cs_timeline_15 : decode b_Cs_timeline 15 = .ok (.iload_n 1, 1) := by decide +kernel
theorem d_Cs_timeline_16 : decode b_Cs_timeline 16 = .ok (.invokevirtual 153, 3) := by decide +kernel
theorem d_Cs_timeline_19 : decode b_Cs_timeline 19 = .ok (.goto 4, 3) := by decide +kernel
theorem d_Cs_timeline_22 : decode b_Cs_timeline 22 = .ok (.iconst (-1), 1) := by decide +kernel
theorem d_Cs_timeline_23 : decode b_Cs_timeline 23 = .ok (.ireturn, 1) := by decide +kernel
theorem d_Hi_holdsUnit_0 : decode b_Hi_holdsUnit 0 = .ok (.iload_n 1, 1) := by decide +kernel
theorem d_Hi_holdsUnit_1 : decode b_Hi_holdsUnit 1 = .ok (.ifCond .lt 26, 3) := by decide +kernel
theorem d_Hi_holdsUnit_4 : decode b_Hi_holdsUnit 4 = .ok (.iload_n 1, 1) := by decide +kernel
theorem d_Hi_holdsUnit_5 : decode b_Hi_holdsUnit 5 = .ok (.aload_n 0, 1) := by decide +kernel
theorem d_Hi_holdsUnit_6 : decode b_Hi_holdsUnit 6 = .ok (.getfield 22, 3) := by decide +kernel
theorem d_Hi_holdsUnit_9 : decode b_Hi_holdsUnit 9 = .ok (.if_icmp .ge 18, 3) := by decide +kernel
theorem d_Hi_holdsUnit_12 : decode b_Hi_holdsUnit 12 = .ok (.iload_n 1, 1) := by decide +kernel
theorem d_Hi_holdsUnit_13 : decode b_Hi_holdsUnit 13 = .ok (.aload_n 0, 1) := by decide +kernel
theorem d_Hi_holdsUnit_14 : decode b_Hi_holdsUnit 14 = .ok (.getfield 22, 3) := by decide +kernel
theorem d_Hi_holdsUnit_17 : decode b_Hi_holdsUnit 17 = .ok (.bipush 64, 2) := by decide +kernel
theorem d_Hi_holdsUnit_19 : decode b_Hi_holdsUnit 19 = .ok (.isub, 1) := by decide +kernel
theorem d_Hi_holdsUnit_20 : decode b_Hi_holdsUnit 20 = .ok (.if_icmp .lt 7, 3) := by decide +kernel
theorem d_Hi_holdsUnit_23 : decode b_Hi_holdsUnit 23 = .ok (.iconst 1, 1) := by decide +kernel
theorem d_Hi_holdsUnit_24 : decode b_Hi_holdsUnit 24 = .ok (.goto 4, 3) := by decide +kernel
theorem d_Hi_holdsUnit_27 : decode b_Hi_holdsUnit 27 = .ok (.iconst 0, 1) := by decide +kernel
theorem d_Hi_holdsUnit_28 : decode b_Hi_holdsUnit 28 = .ok (.ireturn, 1) := by decide +kernel
theorem d_Hi_taskOfUnit_0 : decode b_Hi_taskOfUnit 0 = .ok (.aload_n 0, 1) := by decide +kernel
theorem d_Hi_taskOfUnit_1 : decode b_Hi_taskOfUnit 1 = .ok (.getfield 9, 3) := by decide +kernel
theorem d_Hi_taskOfUnit_4 : decode b_Hi_taskOfUnit 4 = .ok (.iload_n 1, 1) := by decide +kernel
theorem d_Hi_taskOfUnit_5 : decode b_Hi_taskOfUnit 5 = .ok (.bipush 64, 2) := by decide +kernel
theorem d_Hi_taskOfUnit_7 : decode b_Hi_taskOfUnit 7 = .ok (.invokestatic 25, 3) := by decide +kernel
theorem d_Hi_taskOfUnit_10 : decode b_Hi_taskOfUnit 10 = .ok (.iaload, 1) := by decide +kernel
theorem d_Hi_taskOfUnit_11 : decode b_Hi_taskOfUnit 11 = .ok (.ireturn, 1) := by decide +kernel
theorem d_Cs_count_0 : decode b_Cs_count 0 = .ok (.iload_n 1, 1) := by decide +kernel
theorem d_Cs_count_1 : decode b_Cs_count 1 = .ok (.tableswitch 89 0 5 #[39, 47, 55, 63, 71, 76], 39) := by decide +kernel
theorem d_Cs_count_40 : decode b_Cs_count 40 = .ok (.aload_n 0, 1) := by decide +kernel
theorem d_Cs_count_41 : decode b_Cs_count 41 = .ok (.getfield 23, 3) := by decide +kernel
theorem d_Cs_count_44 : decode b_Cs_count 44 = .ok (.getfield 96, 3) := by decide +kernel
theorem d_Cs_count_47 : decode b_Cs_count 47 = .ok (.ireturn, 1) := by decide +kernel
theorem d_Cs_count_48 : decode b_Cs_count 48 = .ok (.aload_n 0, 1) := by decide +kernel
theorem d_Cs_count_49 : decode b_Cs_count 49 = .ok (.getfield 23, 3) := by decide +kernel
theorem d_Cs_count_52 : decode b_Cs_count 52 = .ok (.getfield 156, 3) := by decide +kernel
theorem d_Cs_count_55 : decode b_Cs_count 55 = .ok (.ireturn, 1) := by decide +kernel
theorem d_Cs_count_56 : decode b_Cs_count 56 = .ok (.aload_n 0, 1) := by decide +kernel
theorem d_Cs_count_57 : decode b_Cs_count 57 = .ok (.getfield 23, 3) := by decide +kernel
theorem d_Cs_count_60 : decode b_Cs_count 60 = .ok (.getfield 159, 3) := by decide +kernel
theorem d_Cs_count_63 : decode b_Cs_count 63 = .ok (.ireturn, 1) := by decide +kernel
theorem d_Cs_count_64 : decode b_Cs_count 64 = .ok (.aload_n 0, 1) := by decide +kernel
theorem d_Cs_count_65 : decode b_Cs_count 65 = .ok (.getfield 10, 3) := by decide +kernel
theorem d_Cs_count_68 : decode b_Cs_count 68 = .ok (.invokevirtual 35, 3) := by decide +kernel
theorem d_Cs_count_71 : decode b_Cs_count 71 = .ok (.ireturn, 1) := by decide +kernel
theorem d_Cs_count_72 : decode b_Cs_count 72 = .ok (.aload_n 0, 1) := by decide +kernel
theorem d_Cs_count_73 : decode b_Cs_count 73 = .ok (.invokevirtual 162, 3) := by decide +kernel
theorem d_Cs_count_76 : decode b_Cs_count 76 = .ok (.ireturn, 1) := by decide +kernel
theorem d_Cs_count_77 : decode b_Cs_count 77 = .ok (.aload_n 0, 1) := by decide +kernel
theorem d_Cs_count_78 : decode b_Cs_count 78 = .ok (.invokevirtual 165, 3) := by decide +kernel
theorem d_Cs_count_81 : decode b_Cs_count 81 = .ok (.ifCond .eq 7, 3) := by decide +kernel
theorem d_Cs_count_84 : decode b_Cs_count 84 = .ok (.iconst 1, 1) := by decide +kernel
theorem d_Cs_count_85 : decode b_Cs_count 85 = .ok (.goto 4, 3) := by decide +kernel
theorem d_Cs_count_88 : decode b_Cs_count 88 = .ok (.iconst 0, 1) := by decide +kernel
theorem d_Cs_count_89 : decode b_Cs_count 89 = .ok (.ireturn, 1) := by decide +kernel
theorem d_Cs_count_90 : decode b_Cs_count 90 = .ok (.iconst (-1), 1) := by decide +kernel
theorem d_Cs_count_91 : decode b_Cs_count 91 = .ok (.ireturn, 1) := by decide +kernel
theorem d_Cs_jobsNotDone_0 : decode b_Cs_jobsNotDone 0 = .ok (.iconst 0, 1) := by decide +kernel
theorem d_Cs_jobsNotDone_1 : decode b_Cs_jobsNotDone 1 = .ok (.istore_n 1, 1) := by decide +kernel
theorem d_Cs_jobsNotDone_2 : decode b_Cs_jobsNotDone 2 = .ok (.iconst 0, 1) := by decide +kernel
theorem d_Cs_jobsNotDone_3 : decode b_Cs_jobsNotDone 3 = .ok (.istore_n 2, 1) := by decide +kernel
theorem d_Cs_jobsNotDone_4 : decode b_Cs_jobsNotDone 4 = .ok (.iload_n 2, 1) := by decide +kernel
theorem d_Cs_jobsNotDone_5 : decode b_Cs_jobsNotDone 5 = .ok (.aload_n 0, 1) := by decide +kernel
theorem d_Cs_jobsNotDone_6 : decode b_Cs_jobsNotDone 6 = .ok (.getfield 10, 3) := by decide +kernel
theorem d_Cs_jobsNotDone_9 : decode b_Cs_jobsNotDone 9 = .ok (.invokevirtual 35, 3) := by decide +kernel
theorem d_Cs_jobsNotDone_12 : decode b_Cs_jobsNotDone 12 = .ok (.if_icmp .ge 29, 3) := by decide +kernel
theorem d_Cs_jobsNotDone_15 : decode b_Cs_jobsNotDone 15 = .ok (.iload_n 1, 1) := by decide +kernel
theorem d_Cs_jobsNotDone_16 : decode b_Cs_jobsNotDone 16 = .ok (.aload_n 0, 1) := by decide +kernel
theorem d_Cs_jobsNotDone_17 : decode b_Cs_jobsNotDone 17 = .ok (.getfield 10, 3) := by decide +kernel
theorem d_Cs_jobsNotDone_20 : decode b_Cs_jobsNotDone 20 = .ok (.iload_n 2, 1) := by decide +kernel
theorem d_Cs_jobsNotDone_21 : decode b_Cs_jobsNotDone 21 = .ok (.invokevirtual 59, 3) := by decide +kernel
theorem d_Cs_jobsNotDone_24 : decode b_Cs_jobsNotDone 24 = .ok (.checkcast 39, 3) := by decide +kernel
theorem d_Cs_jobsNotDone_27 : decode b_Cs_jobsNotDone 27 = .ok (.getfield 89, 3) := by decide +kernel
theorem d_Cs_jobsNotDone_30 : decode b_Cs_jobsNotDone 30 = .ok (.getfield 123, 3) := by decide +kernel
theorem d_Cs_jobsNotDone_33 : decode b_Cs_jobsNotDone 33 = .ok (.iadd, 1) := by decide +kernel
theorem d_Cs_jobsNotDone_34 : decode b_Cs_jobsNotDone 34 = .ok (.istore_n 1, 1) := by decide +kernel
theorem d_Cs_jobsNotDone_35 : decode b_Cs_jobsNotDone 35 = .ok (.iinc 2 1, 3) := by decide +kernel
theorem d_Cs_jobsNotDone_38 : decode b_Cs_jobsNotDone 38 = .ok (.goto (-34), 3) := by decide +kernel
theorem d_Cs_jobsNotDone_41 : decode b_Cs_jobsNotDone 41 = .ok (.iload_n 1, 1) := by decide +kernel
theorem d_Cs_jobsNotDone_42 : decode b_Cs_jobsNotDone 42 = .ok (.ireturn, 1) := by decide +kernel
theorem d_Cs_allBoundsMeetDeadlines_0 : decode b_Cs_allBoundsMeetDeadlines 0 = .ok (.iconst 0, 1) := by decide +kernel
theorem d_Cs_allBoundsMeetDeadlines_1 : decode b_Cs_allBoundsMeetDeadlines 1 = .ok (.istore_n 1, 1) := by decide +kernel
theorem d_Cs_allBoundsMeetDeadlines_2 : decode b_Cs_allBoundsMeetDeadlines 2 = .ok (.iload_n 1, 1) := by decide +kernel
theorem d_Cs_allBoundsMeetDeadlines_3 : decode b_Cs_allBoundsMeetDeadlines 3 = .ok (.aload_n 0, 1) := by decide +kernel
theorem d_Cs_allBoundsMeetDeadlines_4 : decode b_Cs_allBoundsMeetDeadlines 4 = .ok (.getfield 10, 3) := by decide +kernel
theorem d_Cs_allBoundsMeetDeadlines_7 : decode b_Cs_allBoundsMeetDeadlines 7 = .ok (.invokevirtual 35, 3) := by decide +kernel
theorem d_Cs_allBoundsMeetDeadlines_10 : decode b_Cs_allBoundsMeetDeadlines 10 = .ok (.if_icmp .ge 41, 3) := by decide +kernel
theorem d_Cs_allBoundsMeetDeadlines_13 : decode b_Cs_allBoundsMeetDeadlines 13 = .ok (.aload_n 0, 1) := by decide +kernel
theorem d_Cs_allBoundsMeetDeadlines_14 : decode b_Cs_allBoundsMeetDeadlines 14 = .ok (.iload_n 1, 1) := by decide +kernel
theorem d_Cs_allBoundsMeetDeadlines_15 : decode b_Cs_allBoundsMeetDeadlines 15 = .ok (.invokevirtual 171, 3) := by decide +kernel
theorem d_Cs_allBoundsMeetDeadlines_18 : decode b_Cs_allBoundsMeetDeadlines 18 = .ok (.istore_n 2, 1) := by decide +kernel
theorem d_Cs_allBoundsMeetDeadlines_19 : decode b_Cs_allBoundsMeetDeadlines 19 = .ok (.iload_n 2, 1) := by decide +kernel
theorem d_Cs_allBoundsMeetDeadlines_20 : decode b_Cs_allBoundsMeetDeadlines 20 = .ok (.bipush (-3), 2) := by decide +kernel
theorem d_Cs_allBoundsMeetDeadlines_22 : decode b_Cs_allBoundsMeetDeadlines 22 = .ok (.if_icmp .eq 21, 3) := by decide +kernel
theorem d_Cs_allBoundsMeetDeadlines_25 : decode b_Cs_allBoundsMeetDeadlines 25 = .ok (.iload_n 2, 1) := by decide +kernel
theorem d_Cs_allBoundsMeetDeadlines_26 : decode b_Cs_allBoundsMeetDeadlines 26 = .ok (.aload_n 0, 1) := by decide +kernel
theorem d_Cs_allBoundsMeetDeadlines_27 : decode b_Cs_allBoundsMeetDeadlines 27 = .ok (.getfield 10, 3) := by decide +kernel
theorem d_Cs_allBoundsMeetDeadlines_30 : decode b_Cs_allBoundsMeetDeadlines 30 = .ok (.iload_n 1, 1) := by decide +kernel
theorem d_Cs_allBoundsMeetDeadlines_31 : decode b_Cs_allBoundsMeetDeadlines 31 = .ok (.invokevirtual 59, 3) := by decide +kernel
theorem d_Cs_allBoundsMeetDeadlines_34 : decode b_Cs_allBoundsMeetDeadlines 34 = .ok (.checkcast 39, 3) := by decide +kernel
theorem d_Cs_allBoundsMeetDeadlines_37 : decode b_Cs_allBoundsMeetDeadlines 37 = .ok (.getfield 126, 3) := by decide +kernel
theorem d_Cs_allBoundsMeetDeadlines_40 : decode b_Cs_allBoundsMeetDeadlines 40 = .ok (.if_icmp .le 5, 3) := by decide +kernel
theorem d_Cs_allBoundsMeetDeadlines_43 : decode b_Cs_allBoundsMeetDeadlines 43 = .ok (.iconst 0, 1) := by decide +kernel
theorem d_Cs_allBoundsMeetDeadlines_44 : decode b_Cs_allBoundsMeetDeadlines 44 = .ok (.ireturn, 1) := by decide +kernel
theorem d_Cs_allBoundsMeetDeadlines_45 : decode b_Cs_allBoundsMeetDeadlines 45 = .ok (.iinc 1 1, 3) := by decide +kernel
theorem d_Cs_allBoundsMeetDeadlines_48 : decode b_Cs_allBoundsMeetDeadlines 48 = .ok (.goto (-46), 3) := by decide +kernel
theorem d_Cs_allBoundsMeetDeadlines_51 : decode b_Cs_allBoundsMeetDeadlines 51 = .ok (.iconst 1, 1) := by decide +kernel
theorem d_Cs_allBoundsMeetDeadlines_52 : decode b_Cs_allBoundsMeetDeadlines 52 = .ok (.ireturn, 1) := by decide +kernel
theorem d_Cs_boundOf_0 : decode b_Cs_boundOf 0 = .ok (.aload_n 0, 1) := by decide +kernel
theorem d_Cs_boundOf_1 : decode b_Cs_boundOf 1 = .ok (.getfield 10, 3) := by decide +kernel
theorem d_Cs_boundOf_4 : decode b_Cs_boundOf 4 = .ok (.iload_n 1, 1) := by decide +kernel
theorem d_Cs_boundOf_5 : decode b_Cs_boundOf 5 = .ok (.invokevirtual 59, 3) := by decide +kernel
theorem d_Cs_boundOf_8 : decode b_Cs_boundOf 8 = .ok (.checkcast 39, 3) := by decide +kernel
theorem d_Cs_boundOf_11 : decode b_Cs_boundOf 11 = .ok (.astore_n 2, 1) := by decide +kernel
theorem d_Cs_boundOf_12 : decode b_Cs_boundOf 12 = .ok (.aload_n 2, 1) := by decide +kernel
theorem d_Cs_boundOf_13 : decode b_Cs_boundOf 13 = .ok (.getfield 63, 3) := by decide +kernel
theorem d_Cs_boundOf_16 : decode b_Cs_boundOf 16 = .ok (.aload_n 0, 1) := by decide +kernel
theorem d_Cs_boundOf_17 : decode b_Cs_boundOf 17 = .ok (.aload_n 2, 1) := by decide +kernel
theorem d_Cs_boundOf_18 : decode b_Cs_boundOf 18 = .ok (.invokevirtual 168, 3) := by decide +kernel
theorem d_Cs_boundOf_21 : decode b_Cs_boundOf 21 = .ok (.iadd, 1) := by decide +kernel
theorem d_Cs_boundOf_22 : decode b_Cs_boundOf 22 = .ok (.istore_n 3, 1) := by decide +kernel
theorem d_Cs_boundOf_23 : decode b_Cs_boundOf 23 = .ok (.iconst 1, 1) := by decide +kernel
theorem d_Cs_boundOf_24 : decode b_Cs_boundOf 24 = .ok (.istore 4, 2) := by decide +kernel
theorem d_Cs_boundOf_26 : decode b_Cs_boundOf 26 = .ok (.iload 4, 2) := by decide +kernel
theorem d_Cs_boundOf_28 : decode b_Cs_boundOf 28 = .ok (.aload_n 2, 1) := by decide +kernel
theorem d_Cs_boundOf_29 : decode b_Cs_boundOf 29 = .ok (.getfield 93, 3) := by decide +kernel
theorem d_Cs_boundOf_32 : decode b_Cs_boundOf 32 = .ok (.if_icmp .gt 26, 3) := by decide +kernel
theorem d_Cs_boundOf_35 : decode b_Cs_boundOf 35 = .ok (.iload 4, 2) := by decide +kernel
theorem d_Cs_boundOf_37 : decode b_Cs_boundOf 37 = .ok (.iload_n 3, 1) := by decide +kernel
theorem d_Cs_boundOf_38 : decode b_Cs_boundOf 38 = .ok (.aload_n 0, 1) := by decide +kernel
theorem d_Cs_boundOf_39 : decode b_Cs_boundOf 39 = .ok (.iload_n 1, 1) := by decide +kernel
theorem d_Cs_boundOf_40 : decode b_Cs_boundOf 40 = .ok (.iload 4, 2) := by decide +kernel
theorem d_Cs_boundOf_42 : decode b_Cs_boundOf 42 = .ok (.invokevirtual 189, 3) := by decide +kernel
theorem d_Cs_boundOf_45 : decode b_Cs_boundOf 45 = .ok (.iadd, 1) := by decide +kernel
theorem d_Cs_boundOf_46 : decode b_Cs_boundOf 46 = .ok (.if_icmp .ne 6, 3) := by decide +kernel
theorem d_Cs_boundOf_49 : decode b_Cs_boundOf 49 = .ok (.iload 4, 2) := by decide +kernel
theorem d_Cs_boundOf_51 : decode b_Cs_boundOf 51 = .ok (.ireturn, 1) := by decide +kernel
theorem d_Cs_boundOf_52 : decode b_Cs_boundOf 52 = .ok (.iinc 4 1, 3) := by decide +kernel
theorem d_Cs_boundOf_55 : decode b_Cs_boundOf 55 = .ok (.goto (-29), 3) := by decide +kernel
theorem d_Cs_boundOf_58 : decode b_Cs_boundOf 58 = .ok (.bipush (-3), 2) := by decide +kernel
theorem d_Cs_boundOf_60 : decode b_Cs_boundOf 60 = .ok (.ireturn, 1) := by decide +kernel
