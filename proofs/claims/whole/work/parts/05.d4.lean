theorem d_Cs_blockingOf_0 : decode b_Cs_blockingOf 0 = .ok (.iconst 0, 1) := by decide +kernel
theorem d_Cs_blockingOf_1 : decode b_Cs_blockingOf 1 = .ok (.istore_n 2, 1) := by decide +kernel
theorem d_Cs_blockingOf_2 : decode b_Cs_blockingOf 2 = .ok (.iconst 0, 1) := by decide +kernel
theorem d_Cs_blockingOf_3 : decode b_Cs_blockingOf 3 = .ok (.istore_n 3, 1) := by decide +kernel
theorem d_Cs_blockingOf_4 : decode b_Cs_blockingOf 4 = .ok (.iload_n 3, 1) := by decide +kernel
theorem d_Cs_blockingOf_5 : decode b_Cs_blockingOf 5 = .ok (.aload_n 0, 1) := by decide +kernel
theorem d_Cs_blockingOf_6 : decode b_Cs_blockingOf 6 = .ok (.getfield 10, 3) := by decide +kernel
theorem d_Cs_blockingOf_9 : decode b_Cs_blockingOf 9 = .ok (.invokevirtual 35, 3) := by decide +kernel
theorem d_Cs_blockingOf_12 : decode b_Cs_blockingOf 12 = .ok (.if_icmp .ge 49, 3) := by decide +kernel
theorem d_Cs_blockingOf_15 : decode b_Cs_blockingOf 15 = .ok (.aload_n 0, 1) := by decide +kernel
theorem d_Cs_blockingOf_16 : decode b_Cs_blockingOf 16 = .ok (.getfield 10, 3) := by decide +kernel
theorem d_Cs_blockingOf_19 : decode b_Cs_blockingOf 19 = .ok (.iload_n 3, 1) := by decide +kernel
theorem d_Cs_blockingOf_20 : decode b_Cs_blockingOf 20 = .ok (.invokevirtual 59, 3) := by decide +kernel
theorem d_Cs_blockingOf_23 : decode b_Cs_blockingOf 23 = .ok (.checkcast 39, 3) := by decide +kernel
theorem d_Cs_blockingOf_26 : decode b_Cs_blockingOf 26 = .ok (.astore 4, 2) := by decide +kernel
theorem d_Cs_blockingOf_28 : decode b_Cs_blockingOf 28 = .ok (.aload 4, 2) := by decide +kernel
theorem d_Cs_blockingOf_30 : decode b_Cs_blockingOf 30 = .ok (.getfield 71, 3) := by decide +kernel
theorem d_Cs_blockingOf_33 : decode b_Cs_blockingOf 33 = .ok (.aload_n 1, 1) := by decide +kernel
theorem d_Cs_blockingOf_34 : decode b_Cs_blockingOf 34 = .ok (.getfield 71, 3) := by decide +kernel
theorem d_Cs_blockingOf_37 : decode b_Cs_blockingOf 37 = .ok (.if_icmp .ge 18, 3) := by decide +kernel
theorem d_Cs_blockingOf_40 : decode b_Cs_blockingOf 40 = .ok (.iload_n 2, 1) := by decide +kernel
theorem d_Cs_blockingOf_41 : decode b_Cs_blockingOf 41 = .ok (.aload_n 0, 1) := by decide +kernel
theorem d_Cs_blockingOf_42 : decode b_Cs_blockingOf 42 = .ok (.aload 4, 2) := by decide +kernel
theorem d_Cs_blockingOf_44 : decode b_Cs_blockingOf 44 = .ok (.aload_n 1, 1) := by decide +kernel
theorem d_Cs_blockingOf_45 : decode b_Cs_blockingOf 45 = .ok (.getfield 71, 3) := by decide +kernel
theorem d_Cs_blockingOf_48 : decode b_Cs_blockingOf 48 = .ok (.invokevirtual 174, 3) := by decide +kernel
theorem d_Cs_blockingOf_51 : decode b_Cs_blockingOf 51 = .ok (.invokestatic 178, 3) := by decide +kernel
theorem d_Cs_blockingOf_54 : decode b_Cs_blockingOf 54 = .ok (.istore_n 2, 1) := by decide +kernel
theorem d_Cs_blockingOf_55 : decode b_Cs_blockingOf 55 = .ok (.iinc 3 1, 3) := by decide +kernel
theorem d_Cs_blockingOf_58 : decode b_Cs_blockingOf 58 = .ok (.goto (-54), 3) := by decide +kernel
theorem d_Cs_blockingOf_61 : decode b_Cs_blockingOf 61 = .ok (.iload_n 2, 1) := by decide +kernel
theorem d_Cs_blockingOf_62 : decode b_Cs_blockingOf 62 = .ok (.ireturn, 1) := by decide +kernel
theorem d_Cs_longestSectionFrom_0 : decode b_Cs_longestSectionFrom 0 = .ok (.iconst 0, 1) := by decide +kernel
theorem d_Cs_longestSectionFrom_1 : decode b_Cs_longestSectionFrom 1 = .ok (.istore_n 3, 1) := by decide +kernel
theorem d_Cs_longestSectionFrom_2 : decode b_Cs_longestSectionFrom 2 = .ok (.iconst 0, 1) := by decide +kernel
theorem d_Cs_longestSectionFrom_3 : decode b_Cs_longestSectionFrom 3 = .ok (.istore 4, 2) := by decide +kernel
theorem d_Cs_longestSectionFrom_5 : decode b_Cs_longestSectionFrom 5 = .ok (.iload 4, 2) := by decide +kernel
theorem d_Cs_longestSectionFrom_7 : decode b_Cs_longestSectionFrom 7 = .ok (.aload_n 1, 1) := by decide +kernel
theorem d_Cs_longestSectionFrom_8 : decode b_Cs_longestSectionFrom 8 = .ok (.getfield 74, 3) := by decide +kernel
theorem d_Cs_longestSectionFrom_11 : decode b_Cs_longestSectionFrom 11 = .ok (.invokevirtual 35, 3) := by decide +kernel
theorem d_Cs_longestSectionFrom_14 : decode b_Cs_longestSectionFrom 14 = .ok (.if_icmp .ge 47, 3) := by decide +kernel
theorem d_Cs_longestSectionFrom_17 : decode b_Cs_longestSectionFrom 17 = .ok (.aload_n 1, 1) := by decide +kernel
theorem d_Cs_longestSectionFrom_18 : decode b_Cs_longestSectionFrom 18 = .ok (.getfield 74, 3) := by decide +kernel
theorem d_Cs_longestSectionFrom_21 : decode b_Cs_longestSectionFrom 21 = .ok (.iload 4, 2) := by decide +kernel
theorem d_Cs_longestSectionFrom_23 : decode b_Cs_longestSectionFrom 23 = .ok (.invokevirtual 59, 3) := by decide +kernel
theorem d_Cs_longestSectionFrom_26 : decode b_Cs_longestSectionFrom 26 = .ok (.checkcast 77, 3) := by decide +kernel
theorem d_Cs_longestSectionFrom_29 : decode b_Cs_longestSectionFrom 29 = .ok (.astore 5, 2) := by decide +kernel
theorem d_Cs_longestSectionFrom_31 : decode b_Cs_longestSectionFrom 31 = .ok (.aload_n 0, 1) := by decide +kernel
theorem d_Cs_longestSectionFrom_32 : decode b_Cs_longestSectionFrom 32 = .ok (.getfield 16, 3) := by decide +kernel
theorem d_Cs_longestSectionFrom_35 : decode b_Cs_longestSectionFrom 35 = .ok (.aload 5, 2) := by decide +kernel
theorem d_Cs_longestSectionFrom_37 : decode b_Cs_longestSectionFrom 37 = .ok (.getfield 183, 3) := by decide +kernel
theorem d_Cs_longestSectionFrom_40 : decode b_Cs_longestSectionFrom 40 = .ok (.iaload, 1) := by decide +kernel
theorem d_Cs_longestSectionFrom_41 : decode b_Cs_longestSectionFrom 41 = .ok (.iload_n 2, 1) := by decide +kernel
theorem d_Cs_longestSectionFrom_42 : decode b_Cs_longestSectionFrom 42 = .ok (.if_icmp .lt 13, 3) := by decide +kernel
theorem d_Cs_longestSectionFrom_45 : decode b_Cs_longestSectionFrom 45 = .ok (.iload_n 3, 1) := by decide +kernel
theorem d_Cs_longestSectionFrom_46 : decode b_Cs_longestSectionFrom 46 = .ok (.aload 5, 2) := by decide +kernel
theorem d_Cs_longestSectionFrom_48 : decode b_Cs_longestSectionFrom 48 = .ok (.getfield 186, 3) := by decide +kernel
theorem d_Cs_longestSectionFrom_51 : decode b_Cs_longestSectionFrom 51 = .ok (.invokestatic 178, 3) := by decide +kernel
theorem d_Cs_longestSectionFrom_54 : decode b_Cs_longestSectionFrom 54 = .ok (.istore_n 3, 1) := by decide +kernel
theorem d_Cs_longestSectionFrom_55 : decode b_Cs_longestSectionFrom 55 = .ok (.iinc 4 1, 3) := by decide +kernel
theorem d_Cs_longestSectionFrom_58 : decode b_Cs_longestSectionFrom 58 = .ok (.goto (-53), 3) := by decide +kernel
theorem d_Cs_longestSectionFrom_61 : decode b_Cs_longestSectionFrom 61 = .ok (.iload_n 3, 1) := by decide +kernel
theorem d_Cs_longestSectionFrom_62 : decode b_Cs_longestSectionFrom 62 = .ok (.ireturn, 1) := by decide +kernel
theorem d_Cs_timeOfOthers_0 : decode b_Cs_timeOfOthers 0 = .ok (.aload_n 0, 1) := by decide +kernel
theorem d_Cs_timeOfOthers_1 : decode b_Cs_timeOfOthers 1 = .ok (.getfield 10, 3) := by decide +kernel
theorem d_Cs_timeOfOthers_4 : decode b_Cs_timeOfOthers 4 = .ok (.iload_n 1, 1) := by decide +kernel
theorem d_Cs_timeOfOthers_5 : decode b_Cs_timeOfOthers 5 = .ok (.invokevirtual 59, 3) := by decide +kernel
theorem d_Cs_timeOfOthers_8 : decode b_Cs_timeOfOthers 8 = .ok (.checkcast 39, 3) := by decide +kernel
theorem d_Cs_timeOfOthers_11 : decode b_Cs_timeOfOthers 11 = .ok (.getfield 71, 3) := by decide +kernel
theorem d_Cs_timeOfOthers_14 : decode b_Cs_timeOfOthers 14 = .ok (.istore_n 3, 1) := by decide +kernel
theorem d_Cs_timeOfOthers_15 : decode b_Cs_timeOfOthers 15 = .ok (.iconst 0, 1) := by decide +kernel
theorem d_Cs_timeOfOthers_16 : decode b_Cs_timeOfOthers 16 = .ok (.istore 4, 2) := by decide +kernel
theorem d_Cs_timeOfOthers_18 : decode b_Cs_timeOfOthers 18 = .ok (.iconst 0, 1) := by decide +kernel
theorem d_Cs_timeOfOthers_19 : decode b_Cs_timeOfOthers 19 = .ok (.istore 5, 2) := by decide +kernel
theorem d_Cs_timeOfOthers_21 : decode b_Cs_timeOfOthers 21 = .ok (.iload 5, 2) := by decide +kernel
theorem d_Cs_timeOfOthers_23 : decode b_Cs_timeOfOthers 23 = .ok (.aload_n 0, 1) := by decide +kernel
theorem d_Cs_timeOfOthers_24 : decode b_Cs_timeOfOthers 24 = .ok (.getfield 10, 3) := by decide +kernel
theorem d_Cs_timeOfOthers_27 : decode b_Cs_timeOfOthers 27 = .ok (.invokevirtual 35, 3) := by decide +kernel
theorem d_Cs_timeOfOthers_30 : decode b_Cs_timeOfOthers 30 = .ok (.if_icmp .ge 55, 3) := by decide +kernel
theorem d_Cs_timeOfOthers_33 : decode b_Cs_timeOfOthers 33 = .ok (.aload_n 0, 1) := by decide +kernel
theorem d_Cs_timeOfOthers_34 : decode b_Cs_timeOfOthers 34 = .ok (.getfield 10, 3) := by decide +kernel
theorem d_Cs_timeOfOthers_37 : decode b_Cs_timeOfOthers 37 = .ok (.iload 5, 2) := by decide +kernel
theorem d_Cs_timeOfOthers_39 : decode b_Cs_timeOfOthers 39 = .ok (.invokevirtual 59, 3) := by decide +kernel
theorem d_Cs_timeOfOthers_42 : decode b_Cs_timeOfOthers 42 = .ok (.checkcast 39, 3) := by decide +kernel
theorem d_Cs_timeOfOthers_45 : decode b_Cs_timeOfOthers 45 = .ok (.astore 6, 2) := by decide +kernel
theorem d_Cs_timeOfOthers_47 : decode b_Cs_timeOfOthers 47 = .ok (.iload 5, 2) := by decide +kernel
theorem d_Cs_timeOfOthers_49 : decode b_Cs_timeOfOthers 49 = .ok (.iload_n 1, 1) := by decide +kernel
theorem d_Cs_timeOfOthers_50 : decode b_Cs_timeOfOthers 50 = .ok (.if_icmp .eq 29, 3) := by decide +kernel
theorem d_Cs_timeOfOthers_53 : decode b_Cs_timeOfOthers 53 = .ok (.aload 6, 2) := by decide +kernel
theorem d_Cs_timeOfOthers_55 : decode b_Cs_timeOfOthers 55 = .ok (.getfield 71, 3) := by decide +kernel
theorem d_Cs_timeOfOthers_58 : decode b_Cs_timeOfOthers 58 = .ok (.iload_n 3, 1) := by decide +kernel
theorem d_Cs_timeOfOthers_59 : decode b_Cs_timeOfOthers 59 = .ok (.if_icmp .lt 20, 3) := by decide +kernel
theorem d_Cs_timeOfOthers_62 : decode b_Cs_timeOfOthers 62 = .ok (.iload 4, 2) := by decide +kernel
theorem d_Cs_timeOfOthers_64 : decode b_Cs_timeOfOthers 64 = .ok (.aload 6, 2) := by decide +kernel
theorem d_Cs_timeOfOthers_66 : decode b_Cs_timeOfOthers 66 = .ok (.getfield 63, 3) := by decide +kernel
theorem d_Cs_timeOfOthers_69 : decode b_Cs_timeOfOthers 69 = .ok (.aload 6, 2) := by decide +kernel
theorem d_Cs_timeOfOthers_71 : decode b_Cs_timeOfOthers 71 = .ok (.iload_n 2, 1) := by decide +kernel
theorem d_Cs_timeOfOthers_72 : decode b_Cs_timeOfOthers 72 = .ok (.invokevirtual 192, 3) := by decide +kernel
theorem d_Cs_timeOfOthers_75 : decode b_Cs_timeOfOthers 75 = .ok (.imul, 1) := by decide +kernel
theorem d_Cs_timeOfOthers_76 : decode b_Cs_timeOfOthers 76 = .ok (.iadd, 1) := by decide +kernel
theorem d_Cs_timeOfOthers_77 : decode b_Cs_timeOfOthers 77 = .ok (.istore 4, 2) := by decide +kernel
theorem d_Cs_timeOfOthers_79 : decode b_Cs_timeOfOthers 79 = .ok (.iinc 5 1, 3) := by decide +kernel
theorem d_Cs_timeOfOthers_82 : decode b_Cs_timeOfOthers 82 = .ok (.goto (-61), 3) := by decide +kernel
theorem d_Cs_timeOfOthers_85 : decode b_Cs_timeOfOthers 85 = .ok (.iload 4, 2) := by decide +kernel
theorem d_Cs_timeOfOthers_87 : decode b_Cs_timeOfOthers 87 = .ok (.ireturn, 1) := by decide +kernel
theorem d_Ta_mostReleasesIn_0 : decode b_Ta_mostReleasesIn 0 = .ok (.aload_n 0, 1) := by decide +kernel
theorem d_Ta_mostReleasesIn_1 : decode b_Ta_mostReleasesIn 1 = .ok (.getfield 25, 3) := by decide +kernel
theorem d_Ta_mostReleasesIn_4 : decode b_Ta_mostReleasesIn 4 = .ok (.iconst 1, 1) := by decide +kernel
theorem d_Ta_mostReleasesIn_5 : decode b_Ta_mostReleasesIn 5 = .ok (.if_icmp .ge 7, 3) := by decide +kernel
theorem d_Ta_mostReleasesIn_8 : decode b_Ta_mostReleasesIn 8 = .ok (.iconst 0, 1) := by decide +kernel
theorem d_Ta_mostReleasesIn_9 : decode b_Ta_mostReleasesIn 9 = .ok (.goto 16, 3) := by decide +kernel
theorem d_Ta_mostReleasesIn_12 : decode b_Ta_mostReleasesIn 12 = .ok (.iload_n 1, 1) := by decide +kernel
theorem d_Ta_mostReleasesIn_13 : decode b_Ta_mostReleasesIn 13 = .ok (.aload_n 0, 1) := by decide +kernel
theorem d_Ta_mostReleasesIn_14 : decode b_Ta_mostReleasesIn 14 = .ok (.getfield 25, 3) := by decide +kernel
theorem d_Ta_mostReleasesIn_17 : decode b_Ta_mostReleasesIn 17 = .ok (.iadd, 1) := by decide +kernel
theorem d_Ta_mostReleasesIn_18 : decode b_Ta_mostReleasesIn 18 = .ok (.iconst 1, 1) := by decide +kernel
theorem d_Ta_mostReleasesIn_19 : decode b_Ta_mostReleasesIn 19 = .ok (.isub, 1) := by decide +kernel
theorem d_Ta_mostReleasesIn_20 : decode b_Ta_mostReleasesIn 20 = .ok (.aload_n 0, 1) := by decide +kernel
theorem d_Ta_mostReleasesIn_21 : decode b_Ta_mostReleasesIn 21 = .ok (.getfield 25, 3) := by decide +kernel
theorem d_Ta_mostReleasesIn_24 : decode b_Ta_mostReleasesIn 24 = .ok (.idiv, 1) := by decide +kernel
theorem d_Ta_mostReleasesIn_25 : decode b_Ta_mostReleasesIn 25 = .ok (.ireturn, 1) := by decide +kernel
theorem d_Cs_blocking_0 : decode b_Cs_blocking 0 = .ok (.aload_n 0, 1) := by decide +kernel
theorem d_Cs_blocking_1 : decode b_Cs_blocking 1 = .ok (.iload_n 1, 1) := by decide +kernel
theorem d_Cs_blocking_2 : decode b_Cs_blocking 2 = .ok (.invokevirtual 56, 3) := by decide +kernel
theorem d_Cs_blocking_5 : decode b_Cs_blocking 5 = .ok (.ifCond .eq 7, 3) := by decide +kernel
theorem d_Cs_blocking_8 : decode b_Cs_blocking 8 = .ok (.iconst (-1), 1) := by decide +kernel
theorem d_Cs_blocking_9 : decode b_Cs_blocking 9 = .ok (.goto 18, 3) := by decide +kernel
theorem d_Cs_blocking_12 : decode b_Cs_blocking 12 = .ok (.aload_n 0, 1) := by decide +kernel
theorem d_Cs_blocking_13 : decode b_Cs_blocking 13 = .ok (.aload_n 0, 1) := by decide +kernel
theorem d_Cs_blocking_14 : decode b_Cs_blocking 14 = .ok (.getfield 10, 3) := by decide +kernel
theorem d_Cs_blocking_17 : decode b_Cs_blocking 17 = .ok (.iload_n 1, 1) := by decide +kernel
theorem d_Cs_blocking_18 : decode b_Cs_blocking 18 = .ok (.invokevirtual 59, 3) := by decide +kernel
theorem d_Cs_blocking_21 : decode b_Cs_blocking 21 = .ok (.checkcast 39, 3) := by decide +kernel
theorem d_Cs_blocking_24 : decode b_Cs_blocking 24 = .ok (.invokevirtual 168, 3) := by decide +kernel
theorem d_Cs_blocking_27 : decode b_Cs_blocking 27 = .ok (.ireturn, 1) := by decide +kernel
theorem d_Cs_bound_0 : decode b_Cs_bound 0 = .ok (.aload_n 0, 1) := by decide +kernel
theorem d_Cs_bound_1 : decode b_Cs_bound 1 = .ok (.iload_n 1, 1) := by decide +kernel
theorem d_Cs_bound_2 : decode b_Cs_bound 2 = .ok (.invokevirtual 56, 3) := by decide +kernel
theorem d_Cs_bound_5 : decode b_Cs_bound 5 = .ok (.ifCond .eq 7, 3) := by decide +kernel
theorem d_Cs_bound_8 : decode b_Cs_bound 8 = .ok (.iconst (-1), 1) := by decide +kernel
theorem d_Cs_bound_9 : decode b_Cs_bound 9 = .ok (.goto 8, 3) := by decide +kernel
theorem d_Cs_bound_12 : decode b_Cs_bound 12 = .ok (.aload_n 0, 1) := by decide +kernel
theorem d_Cs_bound_13 : decode b_Cs_bound 13 = .ok (.iload_n 1, 1) := by decide +kernel
theorem d_Cs_bound_14 : decode b_Cs_bound 14 = .ok (.invokevirtual 171, 3) := by decide +kernel
theorem d_Cs_bound_17 : decode b_Cs_bound 17 = .ok (.ireturn, 1) := by decide +kernel
theorem d_Mo_init_0 : decode b_Mo_init 0 = .ok (.aload_n 0, 1) := by decide +kernel
theorem d_Mo_init_1 : decode b_Mo_init 1 = .ok (.invokespecial 1, 3) := by decide +kernel
theorem d_Mo_init_4 : decode b_Mo_init 4 = .ok (.aload_n 0, 1) := by decide +kernel
theorem d_Mo_init_5 : decode b_Mo_init 5 = .ok (.iconst 0, 1) := by decide +kernel
theorem d_Mo_init_6 : decode b_Mo_init 6 = .ok (.putfield 7, 3) := by decide +kernel
theorem d_Mo_init_9 : decode b_Mo_init 9 = .ok (.aload_n 0, 1) := by decide +kernel
theorem d_Mo_init_10 : decode b_Mo_init 10 = .ok (.iconst 0, 1) := by decide +kernel
theorem d_Mo_init_11 : decode b_Mo_init 11 = .ok (.putfield 13, 3) := by decide +kernel
theorem d_Mo_init_14 : decode b_Mo_init 14 = .ok (.aload_n 0, 1) := by decide +kernel
theorem d_Mo_init_15 : decode b_Mo_init 15 = .ok (.iconst 0, 1) := by decide +kernel
theorem d_Mo_init_16 : decode b_Mo_init 16 = .ok (.putfield 16, 3) := by decide +kernel
theorem d_Mo_init_19 : decode b_Mo_init 19 = .ok (.aload_n 0, 1) := by decide +kernel
theorem d_Mo_init_20 : decode b_Mo_init 20 = .ok (.iconst 0, 1) := by decide +kernel
theorem d_Mo_init_21 : decode b_Mo_init 21 = .ok (.putfield 19, 3) := by decide +kernel
theorem d_Mo_init_24 : decode b_Mo_init 24 = .ok (.aload_n 0, 1) := by decide +kernel
theorem d_Mo_init_25 : decode b_Mo_init 25 = .ok (.bipush (-3), 2) := by decide +kernel
theorem d_Mo_init_27 : decode b_Mo_init 27 = .ok (.putfield 22, 3) := by decide +kernel
theorem d_Mo_init_30 : decode b_Mo_init 30 = .ok (.aload_n 0, 1) := by decide +kernel
theorem d_Mo_init_31 : decode b_Mo_init 31 = .ok (.iconst (-1), 1) := by decide +kernel
theorem d_Mo_init_32 : decode b_Mo_init 32 = .ok (.putfield 25, 3) := by decide +kernel
theorem d_Mo_init_35 : decode b_Mo_init 35 = .ok (.aload_n 0, 1) := by decide +kernel
theorem d_Mo_init_36 : decode b_Mo_init 36 = .ok (.iconst 0, 1) := by decide +kernel
theorem d_Mo_init_37 : decode b_Mo_init 37 = .ok (.putfield 28, 3) := by decide +kernel
theorem d_Mo_init_40 : decode b_Mo_init 40 = .ok (.aload_n 0, 1) := by decide +kernel
theorem d_Mo_init_41 : decode b_Mo_init 41 = .ok (.bipush 6, 2) := by decide +kernel
theorem d_Mo_init_43 : decode b_Mo_init 43 = .ok (.newarray .int, 2) := by decide +kernel
theorem d_Mo_init_45 : decode b_Mo_init 45 = .ok (.putfield 32, 3) := by decide +kernel
theorem d_Mo_init_48 : decode b_Mo_init 48 = .ok (.aload_n 0, 1) := by decide +kernel
theorem d_Mo_init_49 : decode b_Mo_init 49 = .ok (.bipush 6, 2) := by decide +kernel
theorem d_Mo_init_51 : decode b_Mo_init 51 = .ok (.newarray .int, 2) := by decide +kernel
theorem d_Mo_init_53 : decode b_Mo_init 53 = .ok (.putfield 36, 3) := by decide +kernel
theorem d_Mo_init_56 : decode b_Mo_init 56 = .ok (.aload_n 0, 1) := by decide +kernel
theorem d_Mo_init_57 : decode b_Mo_init 57 = .ok (.bipush 6, 2) := by decide +kernel
theorem d_Mo_init_59 : decode b_Mo_init 59 = .ok (.newarray .int, 2) := by decide +kernel
theorem d_Mo_init_61 : decode b_Mo_init 61 = .ok (.putfield 39, 3) := by decide +kernel
theorem d_Mo_init_64 : decode b_Mo_init 64 = .ok (.aload_n 0, 1) := by decide +kernel
theorem d_Mo_init_65 : decode b_Mo_init 65 = .ok (.bipush 6, 2) := by decide +kernel
theorem d_Mo_init_67 : decode b_Mo_init 67 = .ok (.newarray .int, 2) := by decide +kernel
theorem d_Mo_init_69 : decode b_Mo_init 69 = .ok (.putfield 42, 3) := by decide +kernel
theorem d_Mo_init_72 : decode b_Mo_init 72 = .ok (.aload_n 0, 1) := by decide +kernel
theorem d_Mo_init_73 : decode b_Mo_init 73 = .ok (.bipush 6, 2) := by decide +kernel
theorem d_Mo_init_75 : decode b_Mo_init 75 = .ok (.newarray .int, 2) := by decide +kernel
theorem d_Mo_init_77 : decode b_Mo_init 77 = .ok (.putfield 45, 3) := by decide +kernel
theorem d_Mo_init_80 : decode b_Mo_init 80 = .ok (.aload_n 0, 1) := by decide +kernel
theorem d_Mo_init_81 : decode b_Mo_init 81 = .ok (.iconst 4, 1) := by decide +kernel
theorem d_Mo_init_82 : decode b_Mo_init 82 = .ok (.newarray .int, 2) := by decide +kernel
theorem d_Mo_init_84 : decode b_Mo_init 84 = .ok (.putfield 48, 3) := by decide +kernel
theorem d_Mo_init_87 : decode b_Mo_init 87 = .ok (.aload_n 0, 1) := by decide +kernel
theorem d_Mo_init_88 : decode b_Mo_init 88 = .ok (.bipush 6, 2) := by decide +kernel
theorem d_Mo_init_90 : decode b_Mo_init 90 = .ok (.newarray .int, 2) := by decide +kernel
theorem d_Mo_init_92 : decode b_Mo_init 92 = .ok (.putfield 51, 3) := by decide +kernel
theorem d_Mo_init_95 : decode b_Mo_init 95 = .ok (.aload_n 0, 1) := by decide +kernel
theorem d_Mo_init_96 : decode b_Mo_init 96 = .ok (.bipush 18, 2) := by decide +kernel
theorem d_Mo_init_98 : decode b_Mo_init 98 = .ok (.newarray .int, 2) := by decide +kernel
theorem d_Mo_init_100 : decode b_Mo_init 100 = .ok (.putfield 54, 3) := by decide +kernel
theorem d_Mo_init_103 : decode b_Mo_init 103 = .ok (.aload_n 0, 1) := by decide +kernel
theorem d_Mo_init_104 : decode b_Mo_init 104 = .ok (.bipush 18, 2) := by decide +kernel
theorem d_Mo_init_106 : decode b_Mo_init 106 = .ok (.newarray .int, 2) := by decide +kernel
theorem d_Mo_init_108 : decode b_Mo_init 108 = .ok (.putfield 57, 3) := by decide +kernel
theorem d_Mo_init_111 : decode b_Mo_init 111 = .ok (.aload_n 0, 1) := by decide +kernel
theorem d_Mo_init_112 : decode b_Mo_init 112 = .ok (.bipush 18, 2) := by decide +kernel
theorem d_Mo_init_114 : decode b_Mo_init 114 = .ok (.newarray .int, 2) := by decide +kernel
theorem d_Mo_init_116 : decode b_Mo_init 116 = .ok (.putfield 60, 3) := by decide +kernel
theorem d_Mo_init_119 : decode b_Mo_init 119 = .ok (.aload_n 0, 1) := by decide +kernel
theorem d_Mo_init_120 : decode b_Mo_init 120 = .ok (.bipush 6, 2) := by decide +kernel
theorem d_Mo_init_122 : decode b_Mo_init 122 = .ok (.newarray .int, 2) := by decide +kernel
theorem d_Mo_init_124 : decode b_Mo_init 124 = .ok (.putfield 63, 3) := by decide +kernel
theorem d_Mo_init_127 : decode b_Mo_init 127 = .ok (.aload_n 0, 1) := by decide +kernel
theorem d_Mo_init_128 : decode b_Mo_init 128 = .ok (.bipush 48, 2) := by decide +kernel
theorem d_Mo_init_130 : decode b_Mo_init 130 = .ok (.newarray .int, 2) := by decide +kernel
theorem d_Mo_init_132 : decode b_Mo_init 132 = .ok (.putfield 66, 3) := by decide +kernel
theorem d_Mo_init_135 : decode b_Mo_init 135 = .ok (.aload_n 0, 1) := by decide +kernel
theorem d_Mo_init_136 : decode b_Mo_init 136 = .ok (.bipush 6, 2) := by decide +kernel
theorem d_Mo_init_138 : decode b_Mo_init 138 = .ok (.newarray .int, 2) := by decide +kernel
theorem d_Mo_init_140 : decode b_Mo_init 140 = .ok (.putfield 69, 3) := by decide +kernel
theorem d_Mo_init_143 : decode b_Mo_init 143 = .ok (.aload_n 0, 1) := by decide +kernel
theorem d_Mo_init_144 : decode b_Mo_init 144 = .ok (.bipush 6, 2) := by decide +kernel
theorem d_Mo_init_146 : decode b_Mo_init 146 = .ok (.newarray .int, 2) := by decide +kernel
theorem d_Mo_init_148 : decode b_Mo_init 148 = .ok (.putfield 72, 3) := by decide +kernel
theorem d_Mo_init_151 : decode b_Mo_init 151 = .ok (.aload_n 0, 1) := by decide +kernel
theorem d_Mo_init_152 : decode b_Mo_init 152 = .ok (.bipush 6, 2) := by decide +kernel
theorem d_Mo_init_154 : decode b_Mo_init 154 = .ok (.newarray .int, 2) := by decide +kernel
theorem d_Mo_init_156 : decode b_Mo_init 156 = .ok (.putfield 75, 3) := by decide +kernel
theorem d_Mo_init_159 : decode b_Mo_init 159 = .ok (.aload_n 0, 1) := by decide +kernel
theorem d_Mo_init_160 : decode b_Mo_init 160 = .ok (.bipush 6, 2) := by decide +kernel
theorem d_Mo_init_162 : decode b_Mo_init 162 = .ok (.newarray .int, 2) := by decide +kernel
theorem d_Mo_init_164 : decode b_Mo_init 164 = .ok (.putfield 78, 3) := by decide +kernel
theorem d_Mo_init_167 : decode b_Mo_init 167 = .ok (.aload_n 0, 1) := by decide +kernel
theorem d_Mo_init_168 : decode b_Mo_init 168 = .ok (.bipush 6, 2) := by decide +kernel
theorem d_Mo_init_170 : decode b_Mo_init 170 = .ok (.newarray .int, 2) := by decide +kernel
theorem d_Mo_init_172 : decode b_Mo_init 172 = .ok (.putfield 81, 3) := by decide +kernel
theorem d_Mo_init_175 : decode b_Mo_init 175 = .ok (.aload_n 0, 1) := by decide +kernel
theorem d_Mo_init_176 : decode b_Mo_init 176 = .ok (.bipush 6, 2) := by decide +kernel
theorem d_Mo_init_178 : decode b_Mo_init 178 = .ok (.newarray .int, 2) := by decide +kernel
theorem d_Mo_init_180 : decode b_Mo_init 180 = .ok (.putfield 84, 3) := by decide +kernel
theorem d_Mo_init_183 : decode b_Mo_init 183 = .ok (.aload_n 0, 1) := by decide +kernel
theorem d_Mo_init_184 : decode b_Mo_init 184 = .ok (.bipush 64, 2) := by decide +kernel
theorem d_Mo_init_186 : decode b_Mo_init 186 = .ok (.newarray .int, 2) := by decide +kernel
theorem d_Mo_init_188 : decode b_Mo_init 188 = .ok (.putfield 87, 3) := by decide +kernel
theorem d_Mo_init_191 : decode b_Mo_init 191 = .ok (.iconst 0, 1) := by decide +kernel
theorem d_Mo_init_192 : decode b_Mo_init 192 = .ok (.istore_n 1, 1) := by decide +kernel
theorem d_Mo_init_193 : decode b_Mo_init 193 = .ok (.iload_n 1, 1) := by decide +kernel
theorem d_Mo_init_194 : decode b_Mo_init 194 = .ok (.iconst 4, 1) := by decide +kernel
theorem d_Mo_init_195 : decode b_Mo_init 195 = .ok (.if_icmp .ge 17, 3) := by decide +kernel
theorem d_Mo_init_198 : decode b_Mo_init 198 = .ok (.aload_n 0, 1) := by decide +kernel
theorem d_Mo_init_199 : decode b_Mo_init 199 = .ok (.getfield 48, 3) := by decide +kernel
theorem d_Mo_init_202 : decode b_Mo_init 202 = .ok (.iload_n 1, 1) := by decide +kernel
theorem d_Mo_init_203 : decode b_Mo_init 203 = .ok (.bipush 10, 2) := by decide +kernel
theorem d_Mo_init_205 : decode b_Mo_init 205 = .ok (.iastore, 1) := by decide +kernel
theorem d_Mo_init_206 : decode b_Mo_init 206 = .ok (.iinc 1 1, 3) := by decide +kernel
theorem d_Mo_init_209 : decode b_Mo_init 209 = .ok (.goto (-16), 3) := by decide +kernel
theorem d_Mo_init_212 : decode b_Mo_init 212 = .ok (.return_, 1) := by decide +kernel
theorem d_Mo_define_0 : decode b_Mo_define 0 = .ok (.aload_n 0, 1) := by decide +kernel
theorem d_Mo_define_1 : decode b_Mo_define 1 = .ok (.iload_n 1, 1) := by decide +kernel
theorem d_Mo_define_2 : decode b_Mo_define 2 = .ok (.iconst 2, 1) := by decide +kernel
theorem d_Mo_define_3 : decode b_Mo_define 3 = .ok (.bipush 60, 2) := by decide +kernel
theorem d_Mo_define_5 : decode b_Mo_define 5 = .ok (.invokevirtual 90, 3) := by decide +kernel
theorem d_Mo_define_8 : decode b_Mo_define 8 = .ok (.ifCond .ne 47, 3) := by decide +kernel
theorem d_Mo_define_11 : decode b_Mo_define 11 = .ok (.aload_n 0, 1) := by decide +kernel
theorem d_Mo_define_12 : decode b_Mo_define 12 = .ok (.iload_n 2, 1) := by decide +kernel
theorem d_Mo_define_13 : decode b_Mo_define 13 = .ok (.iconst 1, 1) := by decide +kernel
theorem d_Mo_define_14 : decode b_Mo_define 14 = .ok (.iload_n 1, 1) := by decide +kernel
theorem d_Mo_define_15 : decode b_Mo_define 15 = .ok (.invokevirtual 90, 3) := by decide +kernel
theorem d_Mo_define_18 : decode b_Mo_define 18 = .ok (.ifCond .ne 37, 3) := by decide +kernel
theorem d_Mo_define_21 : decode b_Mo_define 21 = .ok (.aload_n 0, 1) := by decide +kernel
theorem d_Mo_define_22 : decode b_Mo_define 22 = .ok (.iload_n 3, 1) := by decide +kernel
theorem d_Mo_define_23 : decode b_Mo_define 23 = .ok (.iconst 1, 1) := by decide +kernel
theorem d_Mo_define_24 : decode b_Mo_define 24 = .ok (.iload_n 1, 1) := by decide +kernel
theorem d_Mo_define_25 : decode b_Mo_define 25 = .ok (.invokevirtual 90, 3) := by decide +kernel
theorem d_Mo_define_28 : decode b_Mo_define 28 = .ok (.ifCond .ne 27, 3) := by decide +kernel
theorem d_Mo_define_31 : decode b_Mo_define 31 = .ok (.aload_n 0, 1) := by decide +kernel
theorem d_Mo_define_32 : decode b_Mo_define 32 = .ok (.iload 4, 2) := by decide +kernel
theorem d_Mo_define_34 : decode b_Mo_define 34 = .ok (.iconst 1, 1) := by decide +kernel
theorem d_Mo_define_35 : decode b_Mo_define 35 = .ok (.bipush 10, 2) := by decide +kernel
theorem d_Mo_define_37 : decode b_Mo_define 37 = .ok (.invokevirtual 90, 3) := by decide +kernel
theorem d_Mo_define_40 : decode b_Mo_define 40 = .ok (.ifCond .ne 15, 3) := by decide +kernel
theorem d_Mo_define_43 : decode b_Mo_define 43 = .ok (.aload_n 0, 1) := by decide +kernel
theorem d_Mo_define_44 : decode b_Mo_define 44 = .ok (.iload 5, 2) := by decide +kernel
theorem d_Mo_define_46 : decode b_Mo_define 46 = .ok (.iconst (-1), 1) := by decide +kernel
theorem d_Mo_define_47 : decode b_Mo_define 47 = .ok (.bipush 59, 2) := by decide +kernel
theorem d_Mo_define_49 : decode b_Mo_define 49 = .ok (.invokevirtual 90, 3) := by decide +kernel
theorem d_Mo_define_52 : decode b_Mo_define 52 = .ok (.ifCond .eq 5, 3) := by decide +kernel
theorem d_Mo_define_55 : decode b_Mo_define 55 = .ok (.iconst (-1), 1) := by decide +kernel
theorem d_Mo_define_56 : decode b_Mo_define 56 = .ok (.ireturn, 1) := by decide +kernel
theorem d_Mo_define_57 : decode b_Mo_define 57 = .ok (.aload_n 0, 1) := by decide +kernel
theorem d_Mo_define_58 : decode b_Mo_define 58 = .ok (.getfield 28, 3) := by decide +kernel
theorem d_Mo_define_61 : decode b_Mo_define 61 = .ok (.ifCond .eq 5, 3) := by decide +kernel
theorem d_Mo_define_64 : decode b_Mo_define 64 = .ok (.iconst (-1), 1) := by decide +kernel
theorem d_Mo_define_65 : decode b_Mo_define 65 = .ok (.ireturn, 1) := by decide +kernel
theorem d_Mo_define_66 : decode b_Mo_define 66 = .ok (.aload_n 0, 1) := by decide +kernel
theorem d_Mo_define_67 : decode b_Mo_define 67 = .ok (.getfield 7, 3) := by decide +kernel
theorem d_Mo_define_70 : decode b_Mo_define 70 = .ok (.bipush 6, 2) := by decide +kernel
theorem d_Mo_define_72 : decode b_Mo_define 72 = .ok (.if_icmp .ne 6, 3) := by decide +kernel
theorem d_Mo_define_75 : decode b_Mo_define 75 = .ok (.bipush (-2), 2) := by decide +kernel
theorem d_Mo_define_77 : decode b_Mo_define 77 = .ok (.ireturn, 1) := by decide +kernel
theorem d_Mo_define_78 : decode b_Mo_define 78 = .ok (.aload_n 0, 1) := by decide +kernel
theorem d_Mo_define_79 : decode b_Mo_define 79 = .ok (.getfield 32, 3) := by decide +kernel
theorem d_Mo_define_82 : decode b_Mo_define 82 = .ok (.aload_n 0, 1) := by decide +kernel
theorem d_Mo_define_83 : decode b_Mo_define 83 = .ok (.getfield 7, 3) := by decide +kernel
theorem d_Mo_define_86 : decode b_Mo_define 86 = .ok (.iload_n 1, 1) := by decide +kernel
theorem d_Mo_define_87 : decode b_Mo_define 87 = .ok (.iastore, 1) := by decide +kernel
theorem d_Mo_define_88 : decode b_Mo_define 88 = .ok (.aload_n 0, 1) := by decide +kernel
theorem d_Mo_define_89 : decode b_Mo_define 89 = .ok (.getfield 36, 3) := by decide +kernel
theorem d_Mo_define_92 : decode b_Mo_define 92 = .ok (.aload_n 0, 1) := by decide +kernel
theorem d_Mo_define_93 : decode b_Mo_define 93 = .ok (.getfield 7, 3) := by decide +kernel
theorem d_Mo_define_96 : decode b_Mo_define 96 = .ok (.iload_n 2, 1) := by decide +kernel
theorem d_Mo_define_97 : decode b_Mo_define 97 = .ok (.iastore, 1) := by decide +kernel
theorem d_Mo_define_98 : decode b_Mo_define 98 = .ok (.aload_n 0, 1) := by decide +kernel
theorem d_Mo_define_99 : decode b_Mo_define 99 = .ok (.getfield 39, 3) := by decide +kernel
theorem d_Mo_define_102 : decode b_Mo_define 102 = .ok (.aload_n 0, 1) := by decide +kernel
theorem d_Mo_define_103 : decode b_Mo_define 103 = .ok (.getfield 7, 3) := by decide +kernel
theorem d_Mo_define_106 : decode b_Mo_define 106 = .ok (.iload_n 3, 1) := by decide +kernel
theorem d_Mo_define_107 : decode b_Mo_define 107 = .ok (.iastore, 1) := by decide +kernel
theorem d_Mo_define_108 : decode b_Mo_define 108 = .ok (.aload_n 0, 1) := by decide +kernel
theorem d_Mo_define_109 : decode b_Mo_define 109 = .ok (.getfield 42, 3) := by decide +kernel
theorem d_Mo_define_112 : decode b_Mo_define 112 = .ok (.aload_n 0, 1) := by decide +kernel
theorem d_Mo_define_113 : decode b_Mo_define 113 = .ok (.getfield 7, 3) := by decide +kernel
theorem d_Mo_define_116 : decode b_Mo_define 116 = .ok (.iload 4, 2) := by decide +kernel
theorem d_Mo_define_118 : decode b_Mo_define 118 = .ok (.iastore, 1) := by decide +kernel
theorem d_Mo_define_119 : decode b_Mo_define 119 = .ok (.aload_n 0, 1) := by decide +kernel
theorem d_Mo_define_120 : decode b_Mo_define 120 = .ok (.getfield 45, 3) := by decide +kernel
theorem d_Mo_define_123 : decode b_Mo_define 123 = .ok (.aload_n 0, 1) := by decide +kernel
theorem d_Mo_define_124 : decode b_Mo_define 124 = .ok (.getfield 7, 3) := by decide +kernel
theorem d_Mo_define_127 : decode b_Mo_define 127 = .ok (.iload 5, 2) := by decide +kernel
theorem d_Mo_define_129 : decode b_Mo_define 129 = .ok (.iastore, 1) := by decide +kernel
theorem d_Mo_define_130 : decode b_Mo_define 130 = .ok (.aload_n 0, 1) := by decide +kernel
theorem d_Mo_define_131 : decode b_Mo_define 131 = .ok (.dup, 1) := by decide +kernel
theorem d_Mo_define_132 : decode b_Mo_define 132 = .ok (.getfield 7, 3) := by decide +kernel
theorem d_Mo_define_135 : decode b_Mo_define 135 = .ok (.iconst 1, 1) := by decide +kernel
theorem d_Mo_define_136 : decode b_Mo_define 136 = .ok (.iadd, 1) := by decide +kernel
theorem d_Mo_define_137 : decode b_Mo_define 137 = .ok (.putfield 7, 3) := by decide +kernel
theorem d_Mo_define_140 : decode b_Mo_define 140 = .ok (.aload_n 0, 1) := by decide +kernel
theorem d_Mo_define_141 : decode b_Mo_define 141 = .ok (.getfield 7, 3) := by decide +kernel
theorem d_Mo_define_144 : decode b_Mo_define 144 = .ok (.iconst 1, 1) := by decide +kernel
theorem d_Mo_define_145 : decode b_Mo_define 145 = .ok (.isub, 1) := by decide +kernel
theorem d_Mo_define_146 : decode b_Mo_define 146 = .ok (.ireturn, 1) := by decide +kernel
theorem d_Mo_out_0 : decode b_Mo_out 0 = .ok (.iload_n 1, 1) := by decide +kernel
theorem d_Mo_out_1 : decode b_Mo_out 1 = .ok (.iload_n 2, 1) := by decide +kernel
theorem d_Mo_out_2 : decode b_Mo_out 2 = .ok (.if_icmp .lt 8, 3) := by decide +kernel
theorem d_Mo_out_5 : decode b_Mo_out 5 = .ok (.iload_n 1, 1) := by decide +kernel
theorem d_Mo_out_6 : decode b_Mo_out 6 = .ok (.iload_n 3, 1) := by decide +kernel
theorem d_Mo_out_7 : decode b_Mo_out 7 = .ok (.if_icmp .le 7, 3) := by decide +kernel
theorem d_Mo_out_10 : decode b_Mo_out 10 = .ok (.iconst 1, 1) := by decide +kernel
theorem d_Mo_out_11 : decode b_Mo_out 11 = .ok (.goto 4, 3) := by decide +kernel
theorem d_Mo_out_14 : decode b_Mo_out 14 = .ok (.iconst 0, 1) := by decide +kernel
theorem d_Mo_out_15 : decode b_Mo_out 15 = .ok (.ireturn, 1) := by decide +kernel
theorem d_Mo_ceiling_0 : decode b_Mo_ceiling 0 = .ok (.aload_n 0, 1) := by decide +kernel
theorem d_Mo_ceiling_1 : decode b_Mo_ceiling 1 = .ok (.iload_n 1, 1) := by decide +kernel
theorem d_Mo_ceiling_2 : decode b_Mo_ceiling 2 = .ok (.iconst 0, 1) := by decide +kernel
theorem d_Mo_ceiling_3 : decode b_Mo_ceiling 3 = .ok (.iconst 3, 1) := by decide +kernel
theorem d_Mo_ceiling_4 : decode b_Mo_ceiling 4 = .ok (.invokevirtual 90, 3) := by decide +kernel
theorem d_Mo_ceiling_7 : decode b_Mo_ceiling 7 = .ok (.ifCond .ne 21, 3) := by decide +kernel
theorem d_Mo_ceiling_10 : decode b_Mo_ceiling 10 = .ok (.aload_n 0, 1) := by decide +kernel
theorem d_Mo_ceiling_11 : decode b_Mo_ceiling 11 = .ok (.iload_n 2, 1) := by decide +kernel
theorem d_Mo_ceiling_12 : decode b_Mo_ceiling 12 = .ok (.iconst 1, 1) := by decide +kernel
theorem d_Mo_ceiling_13 : decode b_Mo_ceiling 13 = .ok (.bipush 10, 2) := by decide +kernel
theorem d_Mo_ceiling_15 : decode b_Mo_ceiling 15 = .ok (.invokevirtual 90, 3) := by decide +kernel
theorem d_Mo_ceiling_18 : decode b_Mo_ceiling 18 = .ok (.ifCond .ne 10, 3) := by decide +kernel
theorem d_Mo_ceiling_21 : decode b_Mo_ceiling 21 = .ok (.aload_n 0, 1) := by decide +kernel
theorem d_Mo_ceiling_22 : decode b_Mo_ceiling 22 = .ok (.getfield 28, 3) := by decide +kernel
theorem d_Mo_ceiling_25 : decode b_Mo_ceiling 25 = .ok (.ifCond .eq 5, 3) := by decide +kernel
theorem d_Mo_ceiling_28 : decode b_Mo_ceiling 28 = .ok (.iconst (-1), 1) := by decide +kernel
theorem d_Mo_ceiling_29 : decode b_Mo_ceiling 29 = .ok (.ireturn, 1) := by decide +kernel
theorem d_Mo_ceiling_30 : decode b_Mo_ceiling 30 = .ok (.iconst 0, 1) := by decide +kernel
theorem d_Mo_ceiling_31 : decode b_Mo_ceiling 31 = .ok (.istore_n 3, 1) := by decide +kernel
theorem d_Mo_ceiling_32 : decode b_Mo_ceiling 32 = .ok (.iload_n 3, 1) := by decide +kernel
theorem d_Mo_ceiling_33 : decode b_Mo_ceiling 33 = .ok (.aload_n 0, 1) := by decide +kernel
theorem d_Mo_ceiling_34 : decode b_Mo_ceiling 34 = .ok (.getfield 7, 3) := by decide +kernel
theorem d_Mo_ceiling_37 : decode b_Mo_ceiling 37 = .ok (.if_icmp .ge 58, 3) := by decide +kernel
theorem d_Mo_ceiling_40 : decode b_Mo_ceiling 40 = .ok (.iload_n 3, 1) := by decide +kernel
theorem d_Mo_ceiling_41 : decode b_Mo_ceiling 41 = .ok (.iconst 3, 1) := by decide +kernel
theorem d_Mo_ceiling_42 : decode b_Mo_ceiling 42 = .ok (.imul, 1) := by decide +kernel
theorem d_Mo_ceiling_43 : decode b_Mo_ceiling 43 = .ok (.istore 4, 2) := by decide +kernel
theorem d_Mo_ceiling_45 : decode b_Mo_ceiling 45 = .ok (.iload 4, 2) := by decide +kernel
theorem d_Mo_ceiling_47 : decode b_Mo_ceiling 47 = .ok (.iload_n 3, 1) := by decide +kernel
theorem d_Mo_ceiling_48 : decode b_Mo_ceiling 48 = .ok (.iconst 3, 1) := by decide +kernel
theorem d_Mo_ceiling_49 : decode b_Mo_ceiling 49 = .ok (.imul, 1) := by decide +kernel
theorem d_Mo_ceiling_50 : decode b_Mo_ceiling 50 = .ok (.aload_n 0, 1) := by decide +kernel
theorem d_Mo_ceiling_51 : decode b_Mo_ceiling 51 = .ok (.getfield 51, 3) := by decide +kernel
theorem d_Mo_ceiling_54 : decode b_Mo_ceiling 54 = .ok (.iload_n 3, 1) := by decide +kernel
theorem d_Mo_ceiling_55 : decode b_Mo_ceiling 55 = .ok (.iaload, 1) := by decide +kernel
theorem d_Mo_ceiling_56 : decode b_Mo_ceiling 56 = .ok (.iadd, 1) := by decide +kernel
theorem d_Mo_ceiling_57 : decode b_Mo_ceiling 57 = .ok (.if_icmp .ge 32, 3) := by decide +kernel
theorem d_Mo_ceiling_60 : decode b_Mo_ceiling 60 = .ok (.aload_n 0, 1) := by decide +kernel
theorem d_Mo_ceiling_61 : decode b_Mo_ceiling 61 = .ok (.getfield 54, 3) := by decide +kernel
theorem d_Mo_ceiling_64 : decode b_Mo_ceiling 64 = .ok (.iload 4, 2) := by decide +kernel
theorem d_Mo_ceiling_66 : decode b_Mo_ceiling 66 = .ok (.iaload, 1) := by decide +kernel
theorem d_Mo_ceiling_67 : decode b_Mo_ceiling 67 = .ok (.iload_n 1, 1) := by decide +kernel
theorem d_Mo_ceiling_68 : decode b_Mo_ceiling 68 = .ok (.if_icmp .ne 15, 3) := by decide +kernel
theorem d_Mo_ceiling_71 : decode b_Mo_ceiling 71 = .ok (.aload_n 0, 1) := by decide +kernel
theorem d_Mo_ceiling_72 : decode b_Mo_ceiling 72 = .ok (.getfield 42, 3) := by decide +kernel
theorem d_Mo_ceiling_75 : decode b_Mo_ceiling 75 = .ok (.iload_n 3, 1) := by decide +kernel
theorem d_Mo_ceiling_76 : decode b_Mo_ceiling 76 = .ok (.iaload, 1) := by decide +kernel
theorem d_Mo_ceiling_77 : decode b_Mo_ceiling 77 = .ok (.iload_n 2, 1) := by decide +kernel
theorem d_Mo_ceiling_78 : decode b_Mo_ceiling 78 = .ok (.if_icmp .le 5, 3) := by decide +kernel
theorem d_Mo_ceiling_81 : decode b_Mo_ceiling 81 = .ok (.iconst (-1), 1) := by decide +kernel
theorem d_Mo_ceiling_82 : decode b_Mo_ceiling 82 = .ok (.ireturn, 1) := by decide +kernel
theorem d_Mo_ceiling_83 : decode b_Mo_ceiling 83 = .ok (.iinc 4 1, 3) := by decide +kernel
theorem d_Mo_ceiling_86 : decode b_Mo_ceiling 86 = .ok (.goto (-41), 3) := by decide +kernel
theorem d_Mo_ceiling_89 : decode b_Mo_ceiling 89 = .ok (.iinc 3 1, 3) := by decide +kernel
theorem d_Mo_ceiling_92 : decode b_Mo_ceiling 92 = .ok (.goto (-60), 3) := by decide +kernel
theorem d_Mo_ceiling_95 : decode b_Mo_ceiling 95 = .ok (.aload_n 0, 1) := by decide +kernel
theorem d_Mo_ceiling_96 : decode b_Mo_ceiling 96 = .ok (.getfield 48, 3) := by decide +kernel
theorem d_Mo_ceiling_99 : decode b_Mo_ceiling 99 = .ok (.iload_n 1, 1) := by decide +kernel
theorem d_Mo_ceiling_100 : decode b_Mo_ceiling 100 = .ok (.iload_n 2, 1) := by decide +kernel
theorem d_Mo_ceiling_101 : decode b_Mo_ceiling 101 = .ok (.iastore, 1) := by decide +kernel
theorem d_Mo_ceiling_102 : decode b_Mo_ceiling 102 = .ok (.iconst 0, 1) := by decide +kernel
theorem d_Mo_ceiling_103 : decode b_Mo_ceiling 103 = .ok (.ireturn, 1) := by decide +kernel
theorem d_Mo_section_0 : decode b_Mo_section 0 = .ok (.aload_n 0, 1) := by decide +kernel
theorem d_Mo_section_1 : decode b_Mo_section 1 = .ok (.iload_n 2, 1) := by decide +kernel
theorem d_Mo_section_2 : decode b_Mo_section 2 = .ok (.iconst 0, 1) := by decide +kernel
theorem d_Mo_section_3 : decode b_Mo_section 3 = .ok (.iconst 3, 1) := by decide +kernel
theorem d_Mo_section_4 : decode b_Mo_section 4 = .ok (.invokevirtual 90, 3) := by decide +kernel
theorem d_Mo_section_7 : decode b_Mo_section 7 = .ok (.ifCond .ne 54, 3) := by decide +kernel
theorem d_Mo_section_10 : decode b_Mo_section 10 = .ok (.aload_n 0, 1) := by decide +kernel
theorem d_Mo_section_11 : decode b_Mo_section 11 = .ok (.iload_n 3, 1) := by decide +kernel
theorem d_Mo_section_12 : decode b_Mo_section 12 = .ok (.iconst 0, 1) := by decide +kernel
theorem d_Mo_section_13 : decode b_Mo_section 13 = .ok (.bipush 59, 2) := by decide +kernel
theorem d_Mo_section_15 : decode b_Mo_section 15 = .ok (.invokevirtual 90, 3) := by decide +kernel
theorem d_Mo_section_18 : decode b_Mo_section 18 = .ok (.ifCond .ne 43, 3) := by decide +kernel
theorem d_Mo_section_21 : decode b_Mo_section 21 = .ok (.aload_n 0, 1) := by decide +kernel
theorem d_Mo_section_22 : decode b_Mo_section 22 = .ok (.iload 4, 2) := by decide +kernel
theorem d_Mo_section_24 : decode b_Mo_section 24 = .ok (.iconst 1, 1) := by decide +kernel
theorem d_Mo_section_25 : decode b_Mo_section 25 = .ok (.bipush 60, 2) := by decide +kernel
theorem d_Mo_section_27 : decode b_Mo_section 27 = .ok (.invokevirtual 90, 3) := by decide +kernel
theorem d_Mo_section_30 : decode b_Mo_section 30 = .ok (.ifCond .ne 31, 3) := by decide +kernel
theorem d_Mo_section_33 : decode b_Mo_section 33 = .ok (.aload_n 0, 1) := by decide +kernel
theorem d_Mo_section_34 : decode b_Mo_section 34 = .ok (.getfield 28, 3) := by decide +kernel
theorem d_Mo_section_37 : decode b_Mo_section 37 = .ok (.ifCond .ne 24, 3) := by decide +kernel
theorem d_Mo_section_40 : decode b_Mo_section 40 = .ok (.aload_n 0, 1) := by decide +kernel
theorem d_Mo_section_41 : decode b_Mo_section 41 = .ok (.iload_n 1, 1) := by decide +kernel
theorem d_Mo_section_42 : decode b_Mo_section 42 = .ok (.invokevirtual 94, 3) := by decide +kernel
theorem d_Mo_section_45 : decode b_Mo_section 45 = .ok (.ifCond .ne 16, 3) := by decide +kernel
theorem d_Mo_section_48 : decode b_Mo_section 48 = .ok (.iload_n 3, 1) := by decide +kernel
theorem d_Mo_section_49 : decode b_Mo_section 49 = .ok (.iload 4, 2) := by decide +kernel
theorem d_Mo_section_51 : decode b_Mo_section 51 = .ok (.iadd, 1) := by decide +kernel
theorem d_Mo_section_52 : decode b_Mo_section 52 = .ok (.aload_n 0, 1) := by decide +kernel
theorem d_Mo_section_53 : decode b_Mo_section 53 = .ok (.getfield 36, 3) := by decide +kernel
theorem d_Mo_section_56 : decode b_Mo_section 56 = .ok (.iload_n 1, 1) := by decide +kernel
theorem d_Mo_section_57 : decode b_Mo_section 57 = .ok (.iaload, 1) := by decide +kernel
theorem d_Mo_section_58 : decode b_Mo_section 58 = .ok (.if_icmp .le 5, 3) := by decide +kernel
theorem d_Mo_section_61 : decode b_Mo_section 61 = .ok (.iconst (-1), 1) := by decide +kernel
theorem d_Mo_section_62 : decode b_Mo_section 62 = .ok (.ireturn, 1) := by decide +kernel
theorem d_Mo_section_63 : decode b_Mo_section 63 = .ok (.iload_n 3, 1) := by decide +kernel
theorem d_Mo_section_64 : decode b_Mo_section 64 = .ok (.istore 5, 2) := by decide +kernel
theorem d_Mo_section_66 : decode b_Mo_section 66 = .ok (.iload 5, 2) := by decide +kernel
theorem d_Mo_section_68 : decode b_Mo_section 68 = .ok (.iload_n 3, 1) := by decide +kernel
theorem d_Mo_section_69 : decode b_Mo_section 69 = .ok (.iload 4, 2) := by decide +kernel
theorem d_Mo_section_71 : decode b_Mo_section 71 = .ok (.iadd, 1) := by decide +kernel
theorem d_Mo_section_72 : decode b_Mo_section 72 = .ok (.if_icmp .ge 21, 3) := by decide +kernel
theorem d_Mo_section_75 : decode b_Mo_section 75 = .ok (.aload_n 0, 1) := by decide +kernel
theorem d_Mo_section_76 : decode b_Mo_section 76 = .ok (.iload_n 1, 1) := by decide +kernel
theorem d_Mo_section_77 : decode b_Mo_section 77 = .ok (.iload 5, 2) := by decide +kernel
theorem d_Mo_section_79 : decode b_Mo_section 79 = .ok (.invokevirtual 98, 3) := by decide +kernel
theorem d_Mo_section_82 : decode b_Mo_section 82 = .ok (.ifCond .lt 5, 3) := by decide +kernel
theorem d_Mo_section_85 : decode b_Mo_section 85 = .ok (.iconst (-1), 1) := by decide +kernel
theorem d_Mo_section_86 : decode b_Mo_section 86 = .ok (.ireturn, 1) := by decide +kernel
theorem d_Mo_section_87 : decode b_Mo_section 87 = .ok (.iinc 5 1, 3) := by decide +kernel
theorem d_Mo_section_90 : decode b_Mo_section 90 = .ok (.goto (-24), 3) := by decide +kernel
theorem d_Mo_section_93 : decode b_Mo_section 93 = .ok (.aload_n 0, 1) := by decide +kernel
theorem d_Mo_section_94 : decode b_Mo_section 94 = .ok (.getfield 48, 3) := by decide +kernel
theorem d_Mo_section_97 : decode b_Mo_section 97 = .ok (.iload_n 2, 1) := by decide +kernel
theorem d_Mo_section_98 : decode b_Mo_section 98 = .ok (.iaload, 1) := by decide +kernel
theorem d_Mo_section_99 : decode b_Mo_section 99 = .ok (.aload_n 0, 1) := by decide +kernel
theorem d_Mo_section_100 : decode b_Mo_section 100 = .ok (.getfield 42, 3) := by decide +kernel
theorem d_Mo_section_103 : decode b_Mo_section 103 = .ok (.iload_n 1, 1) := by decide +kernel
theorem d_Mo_section_104 : decode b_Mo_section 104 = .ok (.iaload, 1) := by decide +kernel
theorem d_Mo_section_105 : decode b_Mo_section 105 = .ok (.if_icmp .ge 5, 3) := by decide +kernel
theorem d_Mo_section_108 : decode b_Mo_section 108 = .ok (.iconst (-1), 1) := by decide +kernel
theorem d_Mo_section_109 : decode b_Mo_section 109 = .ok (.ireturn, 1) := by decide +kernel
theorem d_Mo_section_110 : decode b_Mo_section 110 = .ok (.aload_n 0, 1) := by decide +kernel
theorem d_Mo_section_111 : decode b_Mo_section 111 = .ok (.getfield 51, 3) := by decide +kernel
theorem d_Mo_section_114 : decode b_Mo_section 114 = .ok (.iload_n 1, 1) := by decide +kernel
theorem d_Mo_section_115 : decode b_Mo_section 115 = .ok (.iaload, 1) := by decide +kernel
theorem d_Mo_section_116 : decode b_Mo_section 116 = .ok (.iconst 3, 1) := by decide +kernel
theorem d_Mo_section_117 : decode b_Mo_section 117 = .ok (.if_icmp .ne 6, 3) := by decide +kernel
theorem d_Mo_section_120 : decode b_Mo_section 120 = .ok (.bipush (-2), 2) := by decide +kernel
theorem d_Mo_section_122 : decode b_Mo_section 122 = .ok (.ireturn, 1) := by decide +kernel
theorem d_Mo_section_123 : decode b_Mo_section 123 = .ok (.iload_n 1, 1) := by decide +kernel
theorem d_Mo_section_124 : decode b_Mo_section 124 = .ok (.iconst 3, 1) := by decide +kernel
theorem d_Mo_section_125 : decode b_Mo_section 125 = .ok (.imul, 1) := by decide +kernel
theorem d_Mo_section_126 : decode b_Mo_section 126 = .ok (.aload_n 0, 1) := by decide +kernel
theorem d_Mo_section_127 : decode b_Mo_section 127 = .ok (.getfield 51, 3) := by decide +kernel
theorem d_Mo_section_130 : decode b_Mo_section 130 = .ok (.iload_n 1, 1) := by decide +kernel
theorem d_Mo_section_131 : decode b_Mo_section 131 = .ok (.iaload, 1) := by decide +kernel
theorem d_Mo_section_132 : decode b_Mo_section 132 = .ok (.iadd, 1) := by decide +kernel
theorem d_Mo_section_133 : decode b_Mo_section 133 = .ok (.istore 5, 2) := by decide +kernel
theorem d_Mo_section_135 : decode b_Mo_section 135 = .ok (.aload_n 0, 1) := by decide +kernel
theorem d_Mo_section_136 : decode b_Mo_section 136 = .ok (.getfield 54, 3) := by decide +kernel
theorem d_Mo_section_139 : decode b_Mo_section 139 = .ok (.iload 5, 2) := by decide +kernel
theorem d_Mo_section_141 : decode b_Mo_section 141 = .ok (.iload_n 2, 1) := by decide +kernel
theorem d_Mo_section_142 : decode b_Mo_section 142 = .ok (.iastore, 1) := by decide +kernel
theorem d_Mo_section_143 : decode b_Mo_section 143 = .ok (.aload_n 0, 1) := by decide +kernel
theorem d_Mo_section_144 : decode b_Mo_section 144 = .ok (.getfield 57, 3) := by decide +kernel
theorem d_Mo_section_147 : decode b_Mo_section 147 = .ok (.iload 5, 2) := by decide +kernel
theorem d_Mo_section_149 : decode b_Mo_section 149 = .ok (.iload_n 3, 1) := by decide +kernel
theorem d_Mo_section_150 : decode b_Mo_section 150 = .ok (.iastore, 1) := by decide +kernel
theorem d_Mo_section_151 : decode b_Mo_section 151 = .ok (.aload_n 0, 1) := by decide +kernel
theorem d_Mo_section_152 : decode b_Mo_section 152 = .ok (.getfield 60, 3) := by decide +kernel
theorem d_Mo_section_155 : decode b_Mo_section 155 = .ok (.iload 5, 2) := by decide +kernel
theorem d_Mo_section_157 : decode b_Mo_section 157 = .ok (.iload 4, 2) := by decide +kernel
theorem d_Mo_section_159 : decode b_Mo_section 159 = .ok (.iastore, 1) := by decide +kernel
theorem d_Mo_section_160 : decode b_Mo_section 160 = .ok (.aload_n 0, 1) := by decide +kernel
theorem d_Mo_section_161 : decode b_Mo_section 161 = .ok (.getfield 51, 3) := by decide +kernel
theorem d_Mo_section_164 : decode b_Mo_section 164 = .ok (.iload_n 1, 1) := by decide +kernel
theorem d_Mo_section_165 : decode b_Mo_section 165 = .ok (.dup2, 1) := by decide +kernel
theorem d_Mo_section_166 : decode b_Mo_section 166 = .ok (.iaload, 1) := by decide +kernel
theorem d_Mo_section_167 : decode b_Mo_section 167 = .ok (.iconst 1, 1) := by decide +kernel
theorem d_Mo_section_168 : decode b_Mo_section 168 = .ok (.iadd, 1) := by decide +kernel
theorem d_Mo_section_169 : decode b_Mo_section 169 = .ok (.iastore, 1) := by decide +kernel
theorem d_Mo_section_170 : decode b_Mo_section 170 = .ok (.iconst 0, 1) := by decide +kernel
theorem d_Mo_section_171 : decode b_Mo_section 171 = .ok (.ireturn, 1) := by decide +kernel
