theorem d_Mo_active_0 : decode b_Mo_active 0 = .ok (.aload_n 0, 1) := by decide +kernel
theorem d_Mo_active_1 : decode b_Mo_active 1 = .ok (.iload_n 1, 1) := by decide +kernel
theorem d_Mo_active_2 : decode b_Mo_active 2 = .ok (.invokevirtual 106, 3) := by decide +kernel
theorem d_Mo_active_5 : decode b_Mo_active 5 = .ok (.istore_n 2, 1) := by decide +kernel
theorem d_Mo_active_6 : decode b_Mo_active 6 = .ok (.iload_n 2, 1) := by decide +kernel
theorem d_Mo_active_7 : decode b_Mo_active 7 = .ok (.ifCond .lt 27, 3) := by decide +kernel
theorem d_Mo_active_10 : decode b_Mo_active 10 = .ok (.aload_n 0, 1) := by decide +kernel
theorem d_Mo_active_11 : decode b_Mo_active 11 = .ok (.getfield 48, 3) := by decide +kernel
theorem d_Mo_active_14 : decode b_Mo_active 14 = .ok (.iload_n 2, 1) := by decide +kernel
theorem d_Mo_active_15 : decode b_Mo_active 15 = .ok (.iaload, 1) := by decide +kernel
theorem d_Mo_active_16 : decode b_Mo_active 16 = .ok (.aload_n 0, 1) := by decide +kernel
theorem d_Mo_active_17 : decode b_Mo_active 17 = .ok (.getfield 42, 3) := by decide +kernel
theorem d_Mo_active_20 : decode b_Mo_active 20 = .ok (.iload_n 1, 1) := by decide +kernel
theorem d_Mo_active_21 : decode b_Mo_active 21 = .ok (.iaload, 1) := by decide +kernel
theorem d_Mo_active_22 : decode b_Mo_active 22 = .ok (.if_icmp .le 12, 3) := by decide +kernel
theorem d_Mo_active_25 : decode b_Mo_active 25 = .ok (.aload_n 0, 1) := by decide +kernel
theorem d_Mo_active_26 : decode b_Mo_active 26 = .ok (.getfield 48, 3) := by decide +kernel
theorem d_Mo_active_29 : decode b_Mo_active 29 = .ok (.iload_n 2, 1) := by decide +kernel
theorem d_Mo_active_30 : decode b_Mo_active 30 = .ok (.iaload, 1) := by decide +kernel
theorem d_Mo_active_31 : decode b_Mo_active 31 = .ok (.goto 9, 3) := by decide +kernel
theorem d_Mo_active_34 : decode b_Mo_active 34 = .ok (.aload_n 0, 1) := by decide +kernel
theorem d_Mo_active_35 : decode b_Mo_active 35 = .ok (.getfield 42, 3) := by decide +kernel
theorem d_Mo_active_38 : decode b_Mo_active 38 = .ok (.iload_n 1, 1) := by decide +kernel
theorem d_Mo_active_39 : decode b_Mo_active 39 = .ok (.iaload, 1) := by decide +kernel
theorem d_Mo_active_40 : decode b_Mo_active 40 = .ok (.ireturn, 1) := by decide +kernel
theorem d_Mo_held_0 : decode b_Mo_held 0 = .ok (.aload_n 0, 1) := by decide +kernel
theorem d_Mo_held_1 : decode b_Mo_held 1 = .ok (.getfield 63, 3) := by decide +kernel
theorem d_Mo_held_4 : decode b_Mo_held 4 = .ok (.iload_n 1, 1) := by decide +kernel
theorem d_Mo_held_5 : decode b_Mo_held 5 = .ok (.iaload, 1) := by decide +kernel
theorem d_Mo_held_6 : decode b_Mo_held 6 = .ok (.ifCond .le 17, 3) := by decide +kernel
theorem d_Mo_held_9 : decode b_Mo_held 9 = .ok (.aload_n 0, 1) := by decide +kernel
theorem d_Mo_held_10 : decode b_Mo_held 10 = .ok (.iload_n 1, 1) := by decide +kernel
theorem d_Mo_held_11 : decode b_Mo_held 11 = .ok (.aload_n 0, 1) := by decide +kernel
theorem d_Mo_held_12 : decode b_Mo_held 12 = .ok (.getfield 69, 3) := by decide +kernel
theorem d_Mo_held_15 : decode b_Mo_held 15 = .ok (.iload_n 1, 1) := by decide +kernel
theorem d_Mo_held_16 : decode b_Mo_held 16 = .ok (.iaload, 1) := by decide +kernel
theorem d_Mo_held_17 : decode b_Mo_held 17 = .ok (.invokevirtual 98, 3) := by decide +kernel
theorem d_Mo_held_20 : decode b_Mo_held 20 = .ok (.goto 4, 3) := by decide +kernel
theorem d_Mo_held_23 : decode b_Mo_held 23 = .ok (.iconst (-1), 1) := by decide +kernel
theorem d_Mo_held_24 : decode b_Mo_held 24 = .ok (.istore_n 2, 1) := by decide +kernel
theorem d_Mo_held_25 : decode b_Mo_held 25 = .ok (.iload_n 2, 1) := by decide +kernel
theorem d_Mo_held_26 : decode b_Mo_held 26 = .ok (.ifCond .lt 27, 3) := by decide +kernel
theorem d_Mo_held_29 : decode b_Mo_held 29 = .ok (.aload_n 0, 1) := by decide +kernel
theorem d_Mo_held_30 : decode b_Mo_held 30 = .ok (.getfield 69, 3) := by decide +kernel
theorem d_Mo_held_33 : decode b_Mo_held 33 = .ok (.iload_n 1, 1) := by decide +kernel
theorem d_Mo_held_34 : decode b_Mo_held 34 = .ok (.iaload, 1) := by decide +kernel
theorem d_Mo_held_35 : decode b_Mo_held 35 = .ok (.aload_n 0, 1) := by decide +kernel
theorem d_Mo_held_36 : decode b_Mo_held 36 = .ok (.getfield 57, 3) := by decide +kernel
theorem d_Mo_held_39 : decode b_Mo_held 39 = .ok (.iload_n 2, 1) := by decide +kernel
theorem d_Mo_held_40 : decode b_Mo_held 40 = .ok (.iaload, 1) := by decide +kernel
theorem d_Mo_held_41 : decode b_Mo_held 41 = .ok (.if_icmp .le 12, 3) := by decide +kernel
theorem d_Mo_held_44 : decode b_Mo_held 44 = .ok (.aload_n 0, 1) := by decide +kernel
theorem d_Mo_held_45 : decode b_Mo_held 45 = .ok (.getfield 54, 3) := by decide +kernel
theorem d_Mo_held_48 : decode b_Mo_held 48 = .ok (.iload_n 2, 1) := by decide +kernel
theorem d_Mo_held_49 : decode b_Mo_held 49 = .ok (.iaload, 1) := by decide +kernel
theorem d_Mo_held_50 : decode b_Mo_held 50 = .ok (.goto 4, 3) := by decide +kernel
theorem d_Mo_held_53 : decode b_Mo_held 53 = .ok (.iconst (-1), 1) := by decide +kernel
theorem d_Mo_held_54 : decode b_Mo_held 54 = .ok (.ireturn, 1) := by decide +kernel
theorem d_Mo_work_0 : decode b_Mo_work 0 = .ok (.aload_n 0, 1) := by decide +kernel
theorem d_Mo_work_1 : decode b_Mo_work 1 = .ok (.getfield 69, 3) := by decide +kernel
theorem d_Mo_work_4 : decode b_Mo_work 4 = .ok (.iload_n 1, 1) := by decide +kernel
theorem d_Mo_work_5 : decode b_Mo_work 5 = .ok (.dup2, 1) := by decide +kernel
theorem d_Mo_work_6 : decode b_Mo_work 6 = .ok (.iaload, 1) := by decide +kernel
theorem d_Mo_work_7 : decode b_Mo_work 7 = .ok (.iconst 1, 1) := by decide +kernel
theorem d_Mo_work_8 : decode b_Mo_work 8 = .ok (.iadd, 1) := by decide +kernel
theorem d_Mo_work_9 : decode b_Mo_work 9 = .ok (.iastore, 1) := by decide +kernel
theorem d_Mo_work_10 : decode b_Mo_work 10 = .ok (.iload_n 1, 1) := by decide +kernel
theorem d_Mo_work_11 : decode b_Mo_work 11 = .ok (.aload_n 0, 1) := by decide +kernel
theorem d_Mo_work_12 : decode b_Mo_work 12 = .ok (.getfield 25, 3) := by decide +kernel
theorem d_Mo_work_15 : decode b_Mo_work 15 = .ok (.if_icmp .eq 13, 3) := by decide +kernel
theorem d_Mo_work_18 : decode b_Mo_work 18 = .ok (.aload_n 0, 1) := by decide +kernel
theorem d_Mo_work_19 : decode b_Mo_work 19 = .ok (.dup, 1) := by decide +kernel
theorem d_Mo_work_20 : decode b_Mo_work 20 = .ok (.getfield 19, 3) := by decide +kernel
theorem d_Mo_work_23 : decode b_Mo_work 23 = .ok (.iconst 1, 1) := by decide +kernel
theorem d_Mo_work_24 : decode b_Mo_work 24 = .ok (.iadd, 1) := by decide +kernel
theorem d_Mo_work_25 : decode b_Mo_work 25 = .ok (.putfield 19, 3) := by decide +kernel
theorem d_Mo_work_28 : decode b_Mo_work 28 = .ok (.aload_n 0, 1) := by decide +kernel
theorem d_Mo_work_29 : decode b_Mo_work 29 = .ok (.iload_n 1, 1) := by decide +kernel
theorem d_Mo_work_30 : decode b_Mo_work 30 = .ok (.putfield 25, 3) := by decide +kernel
theorem d_Mo_work_33 : decode b_Mo_work 33 = .ok (.aload_n 0, 1) := by decide +kernel
theorem d_Mo_work_34 : decode b_Mo_work 34 = .ok (.getfield 69, 3) := by decide +kernel
theorem d_Mo_work_37 : decode b_Mo_work 37 = .ok (.iload_n 1, 1) := by decide +kernel
theorem d_Mo_work_38 : decode b_Mo_work 38 = .ok (.iaload, 1) := by decide +kernel
theorem d_Mo_work_39 : decode b_Mo_work 39 = .ok (.aload_n 0, 1) := by decide +kernel
theorem d_Mo_work_40 : decode b_Mo_work 40 = .ok (.getfield 36, 3) := by decide +kernel
theorem d_Mo_work_43 : decode b_Mo_work 43 = .ok (.iload_n 1, 1) := by decide +kernel
theorem d_Mo_work_44 : decode b_Mo_work 44 = .ok (.iaload, 1) := by decide +kernel
theorem d_Mo_work_45 : decode b_Mo_work 45 = .ok (.if_icmp .ge 4, 3) := by decide +kernel
theorem d_Mo_work_48 : decode b_Mo_work 48 = .ok (.return_, 1) := by decide +kernel
theorem d_Mo_work_49 : decode b_Mo_work 49 = .ok (.aload_n 0, 1) := by decide +kernel
theorem d_Mo_work_50 : decode b_Mo_work 50 = .ok (.getfield 13, 3) := by decide +kernel
theorem d_Mo_work_53 : decode b_Mo_work 53 = .ok (.iconst 1, 1) := by decide +kernel
theorem d_Mo_work_54 : decode b_Mo_work 54 = .ok (.iadd, 1) := by decide +kernel
theorem d_Mo_work_55 : decode b_Mo_work 55 = .ok (.aload_n 0, 1) := by decide +kernel
theorem d_Mo_work_56 : decode b_Mo_work 56 = .ok (.getfield 66, 3) := by decide +kernel
theorem d_Mo_work_59 : decode b_Mo_work 59 = .ok (.iload_n 1, 1) := by decide +kernel
theorem d_Mo_work_60 : decode b_Mo_work 60 = .ok (.bipush 8, 2) := by decide +kernel
theorem d_Mo_work_62 : decode b_Mo_work 62 = .ok (.imul, 1) := by decide +kernel
theorem d_Mo_work_63 : decode b_Mo_work 63 = .ok (.iaload, 1) := by decide +kernel
theorem d_Mo_work_64 : decode b_Mo_work 64 = .ok (.isub, 1) := by decide +kernel
theorem d_Mo_work_65 : decode b_Mo_work 65 = .ok (.istore_n 2, 1) := by decide +kernel
theorem d_Mo_work_66 : decode b_Mo_work 66 = .ok (.iload_n 2, 1) := by decide +kernel
theorem d_Mo_work_67 : decode b_Mo_work 67 = .ok (.aload_n 0, 1) := by decide +kernel
theorem d_Mo_work_68 : decode b_Mo_work 68 = .ok (.getfield 81, 3) := by decide +kernel
theorem d_Mo_work_71 : decode b_Mo_work 71 = .ok (.iload_n 1, 1) := by decide +kernel
theorem d_Mo_work_72 : decode b_Mo_work 72 = .ok (.iaload, 1) := by decide +kernel
theorem d_Mo_work_73 : decode b_Mo_work 73 = .ok (.if_icmp .le 10, 3) := by decide +kernel
theorem d_Mo_work_76 : decode b_Mo_work 76 = .ok (.aload_n 0, 1) := by decide +kernel
theorem d_Mo_work_77 : decode b_Mo_work 77 = .ok (.getfield 81, 3) := by decide +kernel
theorem d_Mo_work_80 : decode b_Mo_work 80 = .ok (.iload_n 1, 1) := by decide +kernel
theorem d_Mo_work_81 : decode b_Mo_work 81 = .ok (.iload_n 2, 1) := by decide +kernel
theorem d_Mo_work_82 : decode b_Mo_work 82 = .ok (.iastore, 1) := by decide +kernel
theorem d_Mo_work_83 : decode b_Mo_work 83 = .ok (.iload_n 1, 1) := by decide +kernel
theorem d_Mo_work_84 : decode b_Mo_work 84 = .ok (.bipush 8, 2) := by decide +kernel
theorem d_Mo_work_86 : decode b_Mo_work 86 = .ok (.imul, 1) := by decide +kernel
theorem d_Mo_work_87 : decode b_Mo_work 87 = .ok (.istore_n 3, 1) := by decide +kernel
theorem d_Mo_work_88 : decode b_Mo_work 88 = .ok (.iload_n 3, 1) := by decide +kernel
theorem d_Mo_work_89 : decode b_Mo_work 89 = .ok (.iload_n 1, 1) := by decide +kernel
theorem d_Mo_work_90 : decode b_Mo_work 90 = .ok (.bipush 8, 2) := by decide +kernel
theorem d_Mo_work_92 : decode b_Mo_work 92 = .ok (.imul, 1) := by decide +kernel
theorem d_Mo_work_93 : decode b_Mo_work 93 = .ok (.bipush 7, 2) := by decide +kernel
theorem d_Mo_work_95 : decode b_Mo_work 95 = .ok (.iadd, 1) := by decide +kernel
theorem d_Mo_work_96 : decode b_Mo_work 96 = .ok (.if_icmp .ge 23, 3) := by decide +kernel
theorem d_Mo_work_99 : decode b_Mo_work 99 = .ok (.aload_n 0, 1) := by decide +kernel
theorem d_Mo_work_100 : decode b_Mo_work 100 = .ok (.getfield 66, 3) := by decide +kernel
theorem d_Mo_work_103 : decode b_Mo_work 103 = .ok (.iload_n 3, 1) := by decide +kernel
theorem d_Mo_work_104 : decode b_Mo_work 104 = .ok (.aload_n 0, 1) := by decide +kernel
theorem d_Mo_work_105 : decode b_Mo_work 105 = .ok (.getfield 66, 3) := by decide +kernel
theorem d_Mo_work_108 : decode b_Mo_work 108 = .ok (.iload_n 3, 1) := by decide +kernel
theorem d_Mo_work_109 : decode b_Mo_work 109 = .ok (.iconst 1, 1) := by decide +kernel
theorem d_Mo_work_110 : decode b_Mo_work 110 = .ok (.iadd, 1) := by decide +kernel
theorem d_Mo_work_111 : decode b_Mo_work 111 = .ok (.iaload, 1) := by decide +kernel
theorem d_Mo_work_112 : decode b_Mo_work 112 = .ok (.iastore, 1) := by decide +kernel
theorem d_Mo_work_113 : decode b_Mo_work 113 = .ok (.iinc 3 1, 3) := by decide +kernel
theorem d_Mo_work_116 : decode b_Mo_work 116 = .ok (.goto (-28), 3) := by decide +kernel
theorem d_Mo_work_119 : decode b_Mo_work 119 = .ok (.aload_n 0, 1) := by decide +kernel
theorem d_Mo_work_120 : decode b_Mo_work 120 = .ok (.getfield 63, 3) := by decide +kernel
theorem d_Mo_work_123 : decode b_Mo_work 123 = .ok (.iload_n 1, 1) := by decide +kernel
theorem d_Mo_work_124 : decode b_Mo_work 124 = .ok (.dup2, 1) := by decide +kernel
theorem d_Mo_work_125 : decode b_Mo_work 125 = .ok (.iaload, 1) := by decide +kernel
theorem d_Mo_work_126 : decode b_Mo_work 126 = .ok (.iconst 1, 1) := by decide +kernel
theorem d_Mo_work_127 : decode b_Mo_work 127 = .ok (.isub, 1) := by decide +kernel
theorem d_Mo_work_128 : decode b_Mo_work 128 = .ok (.iastore, 1) := by decide +kernel
theorem d_Mo_work_129 : decode b_Mo_work 129 = .ok (.aload_n 0, 1) := by decide +kernel
theorem d_Mo_work_130 : decode b_Mo_work 130 = .ok (.getfield 69, 3) := by decide +kernel
theorem d_Mo_work_133 : decode b_Mo_work 133 = .ok (.iload_n 1, 1) := by decide +kernel
theorem d_Mo_work_134 : decode b_Mo_work 134 = .ok (.iconst 0, 1) := by decide +kernel
theorem d_Mo_work_135 : decode b_Mo_work 135 = .ok (.iastore, 1) := by decide +kernel
theorem d_Mo_work_136 : decode b_Mo_work 136 = .ok (.aload_n 0, 1) := by decide +kernel
theorem d_Mo_work_137 : decode b_Mo_work 137 = .ok (.getfield 75, 3) := by decide +kernel
theorem d_Mo_work_140 : decode b_Mo_work 140 = .ok (.iload_n 1, 1) := by decide +kernel
theorem d_Mo_work_141 : decode b_Mo_work 141 = .ok (.dup2, 1) := by decide +kernel
theorem d_Mo_work_142 : decode b_Mo_work 142 = .ok (.iaload, 1) := by decide +kernel
theorem d_Mo_work_143 : decode b_Mo_work 143 = .ok (.iconst 1, 1) := by decide +kernel
theorem d_Mo_work_144 : decode b_Mo_work 144 = .ok (.iadd, 1) := by decide +kernel
theorem d_Mo_work_145 : decode b_Mo_work 145 = .ok (.iastore, 1) := by decide +kernel
theorem d_Mo_work_146 : decode b_Mo_work 146 = .ok (.return_, 1) := by decide +kernel
theorem d_Mo_ran_0 : decode b_Mo_ran 0 = .ok (.aload_n 0, 1) := by decide +kernel
theorem d_Mo_ran_1 : decode b_Mo_ran 1 = .ok (.getfield 22, 3) := by decide +kernel
theorem d_Mo_ran_4 : decode b_Mo_ran 4 = .ok (.ireturn, 1) := by decide +kernel
theorem d_Mo_tell_0 : decode b_Mo_tell 0 = .ok (.aload_n 0, 1) := by decide +kernel
theorem d_Mo_tell_1 : decode b_Mo_tell 1 = .ok (.iload_n 1, 1) := by decide +kernel
theorem d_Mo_tell_2 : decode b_Mo_tell 2 = .ok (.invokevirtual 94, 3) := by decide +kernel
theorem d_Mo_tell_5 : decode b_Mo_tell 5 = .ok (.ifCond .ne 14, 3) := by decide +kernel
theorem d_Mo_tell_8 : decode b_Mo_tell 8 = .ok (.aload_n 0, 1) := by decide +kernel
theorem d_Mo_tell_9 : decode b_Mo_tell 9 = .ok (.iload_n 2, 1) := by decide +kernel
theorem d_Mo_tell_10 : decode b_Mo_tell 10 = .ok (.iconst 0, 1) := by decide +kernel
theorem d_Mo_tell_11 : decode b_Mo_tell 11 = .ok (.bipush 6, 2) := by decide +kernel
theorem d_Mo_tell_13 : decode b_Mo_tell 13 = .ok (.invokevirtual 90, 3) := by decide +kernel
theorem d_Mo_tell_16 : decode b_Mo_tell 16 = .ok (.ifCond .eq 5, 3) := by decide +kernel
theorem d_Mo_tell_19 : decode b_Mo_tell 19 = .ok (.iconst (-1), 1) := by decide +kernel
theorem d_Mo_tell_20 : decode b_Mo_tell 20 = .ok (.ireturn, 1) := by decide +kernel
theorem d_Mo_tell_21 : decode b_Mo_tell 21 = .ok (.iload_n 2, 1) := by decide +kernel
theorem d_Mo_tell_22 : decode b_Mo_tell 22 = .ok (.ifCond .ne 10, 3) := by decide +kernel
theorem d_Mo_tell_25 : decode b_Mo_tell 25 = .ok (.aload_n 0, 1) := by decide +kernel
theorem d_Mo_tell_26 : decode b_Mo_tell 26 = .ok (.getfield 72, 3) := by decide +kernel
theorem d_Mo_tell_29 : decode b_Mo_tell 29 = .ok (.iload_n 1, 1) := by decide +kernel
theorem d_Mo_tell_30 : decode b_Mo_tell 30 = .ok (.iaload, 1) := by decide +kernel
theorem d_Mo_tell_31 : decode b_Mo_tell 31 = .ok (.ireturn, 1) := by decide +kernel
theorem d_Mo_tell_32 : decode b_Mo_tell 32 = .ok (.iload_n 2, 1) := by decide +kernel
theorem d_Mo_tell_33 : decode b_Mo_tell 33 = .ok (.iconst 1, 1) := by decide +kernel
theorem d_Mo_tell_34 : decode b_Mo_tell 34 = .ok (.if_icmp .ne 10, 3) := by decide +kernel
theorem d_Mo_tell_37 : decode b_Mo_tell 37 = .ok (.aload_n 0, 1) := by decide +kernel
theorem d_Mo_tell_38 : decode b_Mo_tell 38 = .ok (.getfield 75, 3) := by decide +kernel
theorem d_Mo_tell_41 : decode b_Mo_tell 41 = .ok (.iload_n 1, 1) := by decide +kernel
theorem d_Mo_tell_42 : decode b_Mo_tell 42 = .ok (.iaload, 1) := by decide +kernel
theorem d_Mo_tell_43 : decode b_Mo_tell 43 = .ok (.ireturn, 1) := by decide +kernel
theorem d_Mo_tell_44 : decode b_Mo_tell 44 = .ok (.iload_n 2, 1) := by decide +kernel
theorem d_Mo_tell_45 : decode b_Mo_tell 45 = .ok (.iconst 2, 1) := by decide +kernel
theorem d_Mo_tell_46 : decode b_Mo_tell 46 = .ok (.if_icmp .ne 10, 3) := by decide +kernel
theorem d_Mo_tell_49 : decode b_Mo_tell 49 = .ok (.aload_n 0, 1) := by decide +kernel
theorem d_Mo_tell_50 : decode b_Mo_tell 50 = .ok (.getfield 78, 3) := by decide +kernel
theorem d_Mo_tell_53 : decode b_Mo_tell 53 = .ok (.iload_n 1, 1) := by decide +kernel
theorem d_Mo_tell_54 : decode b_Mo_tell 54 = .ok (.iaload, 1) := by decide +kernel
theorem d_Mo_tell_55 : decode b_Mo_tell 55 = .ok (.ireturn, 1) := by decide +kernel
theorem d_Mo_tell_56 : decode b_Mo_tell 56 = .ok (.iload_n 2, 1) := by decide +kernel
theorem d_Mo_tell_57 : decode b_Mo_tell 57 = .ok (.iconst 3, 1) := by decide +kernel
theorem d_Mo_tell_58 : decode b_Mo_tell 58 = .ok (.if_icmp .ne 10, 3) := by decide +kernel
theorem d_Mo_tell_61 : decode b_Mo_tell 61 = .ok (.aload_n 0, 1) := by decide +kernel
theorem d_Mo_tell_62 : decode b_Mo_tell 62 = .ok (.getfield 81, 3) := by decide +kernel
theorem d_Mo_tell_65 : decode b_Mo_tell 65 = .ok (.iload_n 1, 1) := by decide +kernel
theorem d_Mo_tell_66 : decode b_Mo_tell 66 = .ok (.iaload, 1) := by decide +kernel
theorem d_Mo_tell_67 : decode b_Mo_tell 67 = .ok (.ireturn, 1) := by decide +kernel
theorem d_Mo_tell_68 : decode b_Mo_tell 68 = .ok (.aload_n 0, 1) := by decide +kernel
theorem d_Mo_tell_69 : decode b_Mo_tell 69 = .ok (.getfield 63, 3) := by decide +kernel
theorem d_Mo_tell_72 : decode b_Mo_tell 72 = .ok (.iload_n 1, 1) := by decide +kernel
theorem d_Mo_tell_73 : decode b_Mo_tell 73 = .ok (.iaload, 1) := by decide +kernel
theorem d_Mo_tell_74 : decode b_Mo_tell 74 = .ok (.ifCond .ne 6, 3) := by decide +kernel
theorem d_Mo_tell_77 : decode b_Mo_tell 77 = .ok (.bipush (-3), 2) := by decide +kernel
theorem d_Mo_tell_79 : decode b_Mo_tell 79 = .ok (.ireturn, 1) := by decide +kernel
theorem d_Mo_tell_80 : decode b_Mo_tell 80 = .ok (.iload_n 2, 1) := by decide +kernel
theorem d_Mo_tell_81 : decode b_Mo_tell 81 = .ok (.iconst 4, 1) := by decide +kernel
theorem d_Mo_tell_82 : decode b_Mo_tell 82 = .ok (.if_icmp .ne 12, 3) := by decide +kernel
theorem d_Mo_tell_85 : decode b_Mo_tell 85 = .ok (.aload_n 0, 1) := by decide +kernel
theorem d_Mo_tell_86 : decode b_Mo_tell 86 = .ok (.getfield 69, 3) := by decide +kernel
theorem d_Mo_tell_89 : decode b_Mo_tell 89 = .ok (.iload_n 1, 1) := by decide +kernel
theorem d_Mo_tell_90 : decode b_Mo_tell 90 = .ok (.iaload, 1) := by decide +kernel
theorem d_Mo_tell_91 : decode b_Mo_tell 91 = .ok (.goto 25, 3) := by decide +kernel
theorem d_Mo_tell_94 : decode b_Mo_tell 94 = .ok (.iload_n 2, 1) := by decide +kernel
theorem d_Mo_tell_95 : decode b_Mo_tell 95 = .ok (.iconst 5, 1) := by decide +kernel
theorem d_Mo_tell_96 : decode b_Mo_tell 96 = .ok (.if_icmp .ne 11, 3) := by decide +kernel
theorem d_Mo_tell_99 : decode b_Mo_tell 99 = .ok (.aload_n 0, 1) := by decide +kernel
theorem d_Mo_tell_100 : decode b_Mo_tell 100 = .ok (.iload_n 1, 1) := by decide +kernel
theorem d_Mo_tell_101 : decode b_Mo_tell 101 = .ok (.invokevirtual 110, 3) := by decide +kernel
theorem d_Mo_tell_104 : decode b_Mo_tell 104 = .ok (.goto 12, 3) := by decide +kernel
theorem d_Mo_tell_107 : decode b_Mo_tell 107 = .ok (.aload_n 0, 1) := by decide +kernel
theorem d_Mo_tell_108 : decode b_Mo_tell 108 = .ok (.getfield 66, 3) := by decide +kernel
theorem d_Mo_tell_111 : decode b_Mo_tell 111 = .ok (.iload_n 1, 1) := by decide +kernel
theorem d_Mo_tell_112 : decode b_Mo_tell 112 = .ok (.bipush 8, 2) := by decide +kernel
theorem d_Mo_tell_114 : decode b_Mo_tell 114 = .ok (.imul, 1) := by decide +kernel
theorem d_Mo_tell_115 : decode b_Mo_tell 115 = .ok (.iaload, 1) := by decide +kernel
theorem d_Mo_tell_116 : decode b_Mo_tell 116 = .ok (.ireturn, 1) := by decide +kernel
theorem d_Mo_holder_0 : decode b_Mo_holder 0 = .ok (.aload_n 0, 1) := by decide +kernel
theorem d_Mo_holder_1 : decode b_Mo_holder 1 = .ok (.iload_n 1, 1) := by decide +kernel
theorem d_Mo_holder_2 : decode b_Mo_holder 2 = .ok (.iconst 0, 1) := by decide +kernel
theorem d_Mo_holder_3 : decode b_Mo_holder 3 = .ok (.iconst 3, 1) := by decide +kernel
theorem d_Mo_holder_4 : decode b_Mo_holder 4 = .ok (.invokevirtual 90, 3) := by decide +kernel
theorem d_Mo_holder_7 : decode b_Mo_holder 7 = .ok (.ifCond .eq 5, 3) := by decide +kernel
theorem d_Mo_holder_10 : decode b_Mo_holder 10 = .ok (.iconst (-1), 1) := by decide +kernel
theorem d_Mo_holder_11 : decode b_Mo_holder 11 = .ok (.ireturn, 1) := by decide +kernel
theorem d_Mo_holder_12 : decode b_Mo_holder 12 = .ok (.iconst 0, 1) := by decide +kernel
theorem d_Mo_holder_13 : decode b_Mo_holder 13 = .ok (.istore_n 2, 1) := by decide +kernel
theorem d_Mo_holder_14 : decode b_Mo_holder 14 = .ok (.iload_n 2, 1) := by decide +kernel
theorem d_Mo_holder_15 : decode b_Mo_holder 15 = .ok (.aload_n 0, 1) := by decide +kernel
theorem d_Mo_holder_16 : decode b_Mo_holder 16 = .ok (.getfield 7, 3) := by decide +kernel
theorem d_Mo_holder_19 : decode b_Mo_holder 19 = .ok (.if_icmp .ge 20, 3) := by decide +kernel
theorem d_Mo_holder_22 : decode b_Mo_holder 22 = .ok (.aload_n 0, 1) := by decide +kernel
theorem d_Mo_holder_23 : decode b_Mo_holder 23 = .ok (.iload_n 2, 1) := by decide +kernel
theorem d_Mo_holder_24 : decode b_Mo_holder 24 = .ok (.invokevirtual 106, 3) := by decide +kernel
theorem d_Mo_holder_27 : decode b_Mo_holder 27 = .ok (.iload_n 1, 1) := by decide +kernel
theorem d_Mo_holder_28 : decode b_Mo_holder 28 = .ok (.if_icmp .ne 5, 3) := by decide +kernel
theorem d_Mo_holder_31 : decode b_Mo_holder 31 = .ok (.iload_n 2, 1) := by decide +kernel
theorem d_Mo_holder_32 : decode b_Mo_holder 32 = .ok (.ireturn, 1) := by decide +kernel
theorem d_Mo_holder_33 : decode b_Mo_holder 33 = .ok (.iinc 2 1, 3) := by decide +kernel
theorem d_Mo_holder_36 : decode b_Mo_holder 36 = .ok (.goto (-22), 3) := by decide +kernel
theorem d_Mo_holder_39 : decode b_Mo_holder 39 = .ok (.bipush (-3), 2) := by decide +kernel
theorem d_Mo_holder_41 : decode b_Mo_holder 41 = .ok (.ireturn, 1) := by decide +kernel
theorem d_Mo_blocking_0 : decode b_Mo_blocking 0 = .ok (.aload_n 0, 1) := by decide +kernel
theorem d_Mo_blocking_1 : decode b_Mo_blocking 1 = .ok (.iload_n 1, 1) := by decide +kernel
theorem d_Mo_blocking_2 : decode b_Mo_blocking 2 = .ok (.invokevirtual 94, 3) := by decide +kernel
theorem d_Mo_blocking_5 : decode b_Mo_blocking 5 = .ok (.ifCond .eq 5, 3) := by decide +kernel
theorem d_Mo_blocking_8 : decode b_Mo_blocking 8 = .ok (.iconst (-1), 1) := by decide +kernel
theorem d_Mo_blocking_9 : decode b_Mo_blocking 9 = .ok (.ireturn, 1) := by decide +kernel
theorem d_Mo_blocking_10 : decode b_Mo_blocking 10 = .ok (.iconst 0, 1) := by decide +kernel
theorem d_Mo_blocking_11 : decode b_Mo_blocking 11 = .ok (.istore_n 2, 1) := by decide +kernel
theorem d_Mo_blocking_12 : decode b_Mo_blocking 12 = .ok (.iconst 0, 1) := by decide +kernel
theorem d_Mo_blocking_13 : decode b_Mo_blocking 13 = .ok (.istore_n 3, 1) := by decide +kernel
theorem d_Mo_blocking_14 : decode b_Mo_blocking 14 = .ok (.iload_n 3, 1) := by decide +kernel
theorem d_Mo_blocking_15 : decode b_Mo_blocking 15 = .ok (.aload_n 0, 1) := by decide +kernel
theorem d_Mo_blocking_16 : decode b_Mo_blocking 16 = .ok (.getfield 7, 3) := by decide +kernel
theorem d_Mo_blocking_19 : decode b_Mo_blocking 19 = .ok (.if_icmp .ge 90, 3) := by decide +kernel
theorem d_Mo_blocking_22 : decode b_Mo_blocking 22 = .ok (.iload_n 3, 1) := by decide +kernel
theorem d_Mo_blocking_23 : decode b_Mo_blocking 23 = .ok (.iconst 3, 1) := by decide +kernel
theorem d_Mo_blocking_24 : decode b_Mo_blocking 24 = .ok (.imul, 1) := by decide +kernel
theorem d_Mo_blocking_25 : decode b_Mo_blocking 25 = .ok (.istore 4, 2) := by decide +kernel
theorem d_Mo_blocking_27 : decode b_Mo_blocking 27 = .ok (.iload 4, 2) := by decide +kernel
theorem d_Mo_blocking_29 : decode b_Mo_blocking 29 = .ok (.iload_n 3, 1) := by decide +kernel
theorem d_Mo_blocking_30 : decode b_Mo_blocking 30 = .ok (.iconst 3, 1) := by decide +kernel
theorem d_Mo_blocking_31 : decode b_Mo_blocking 31 = .ok (.imul, 1) := by decide +kernel
theorem d_Mo_blocking_32 : decode b_Mo_blocking 32 = .ok (.aload_n 0, 1) := by decide +kernel
theorem d_Mo_blocking_33 : decode b_Mo_blocking 33 = .ok (.getfield 51, 3) := by decide +kernel
theorem d_Mo_blocking_36 : decode b_Mo_blocking 36 = .ok (.iload_n 3, 1) := by decide +kernel
theorem d_Mo_blocking_37 : decode b_Mo_blocking 37 = .ok (.iaload, 1) := by decide +kernel
theorem d_Mo_blocking_38 : decode b_Mo_blocking 38 = .ok (.iadd, 1) := by decide +kernel
theorem d_Mo_blocking_39 : decode b_Mo_blocking 39 = .ok (.if_icmp .ge 64, 3) := by decide +kernel
theorem d_Mo_blocking_42 : decode b_Mo_blocking 42 = .ok (.aload_n 0, 1) := by decide +kernel
theorem d_Mo_blocking_43 : decode b_Mo_blocking 43 = .ok (.getfield 42, 3) := by decide +kernel
theorem d_Mo_blocking_46 : decode b_Mo_blocking 46 = .ok (.iload_n 3, 1) := by decide +kernel
theorem d_Mo_blocking_47 : decode b_Mo_blocking 47 = .ok (.iaload, 1) := by decide +kernel
theorem d_Mo_blocking_48 : decode b_Mo_blocking 48 = .ok (.aload_n 0, 1) := by decide +kernel
theorem d_Mo_blocking_49 : decode b_Mo_blocking 49 = .ok (.getfield 42, 3) := by decide +kernel
theorem d_Mo_blocking_52 : decode b_Mo_blocking 52 = .ok (.iload_n 1, 1) := by decide +kernel
theorem d_Mo_blocking_53 : decode b_Mo_blocking 53 = .ok (.iaload, 1) := by decide +kernel
theorem d_Mo_blocking_54 : decode b_Mo_blocking 54 = .ok (.if_icmp .ge 43, 3) := by decide +kernel
theorem d_Mo_blocking_57 : decode b_Mo_blocking 57 = .ok (.aload_n 0, 1) := by decide +kernel
theorem d_Mo_blocking_58 : decode b_Mo_blocking 58 = .ok (.getfield 48, 3) := by decide +kernel
theorem d_Mo_blocking_61 : decode b_Mo_blocking 61 = .ok (.aload_n 0, 1) := by decide +kernel
theorem d_Mo_blocking_62 : decode b_Mo_blocking 62 = .ok (.getfield 54, 3) := by decide +kernel
theorem d_Mo_blocking_65 : decode b_Mo_blocking 65 = .ok (.iload 4, 2) := by decide +kernel
theorem d_Mo_blocking_67 : decode b_Mo_blocking 67 = .ok (.iaload, 1) := by decide +kernel
theorem d_Mo_blocking_68 : decode b_Mo_blocking 68 = .ok (.iaload, 1) := by decide +kernel
theorem d_Mo_blocking_69 : decode b_Mo_blocking 69 = .ok (.aload_n 0, 1) := by decide +kernel
theorem d_Mo_blocking_70 : decode b_Mo_blocking 70 = .ok (.getfield 42, 3) := by decide +kernel
theorem d_Mo_blocking_73 : decode b_Mo_blocking 73 = .ok (.iload_n 1, 1) := by decide +kernel
theorem d_Mo_blocking_74 : decode b_Mo_blocking 74 = .ok (.iaload, 1) := by decide +kernel
theorem d_Mo_blocking_75 : decode b_Mo_blocking 75 = .ok (.if_icmp .lt 22, 3) := by decide +kernel
theorem d_Mo_blocking_78 : decode b_Mo_blocking 78 = .ok (.aload_n 0, 1) := by decide +kernel
theorem d_Mo_blocking_79 : decode b_Mo_blocking 79 = .ok (.getfield 60, 3) := by decide +kernel
theorem d_Mo_blocking_82 : decode b_Mo_blocking 82 = .ok (.iload 4, 2) := by decide +kernel
theorem d_Mo_blocking_84 : decode b_Mo_blocking 84 = .ok (.iaload, 1) := by decide +kernel
theorem d_Mo_blocking_85 : decode b_Mo_blocking 85 = .ok (.iload_n 2, 1) := by decide +kernel
theorem d_Mo_blocking_86 : decode b_Mo_blocking 86 = .ok (.if_icmp .le 11, 3) := by decide +kernel
theorem d_Mo_blocking_89 : decode b_Mo_blocking 89 = .ok (.aload_n 0, 1) := by decide +kernel
theorem d_Mo_blocking_90 : decode b_Mo_blocking 90 = .ok (.getfield 60, 3) := by decide +kernel
theorem d_Mo_blocking_93 : decode b_Mo_blocking 93 = .ok (.iload 4, 2) := by decide +kernel
theorem d_Mo_blocking_95 : decode b_Mo_blocking 95 = .ok (.iaload, 1) := by decide +kernel
theorem d_Mo_blocking_96 : decode b_Mo_blocking 96 = .ok (.istore_n 2, 1) := by decide +kernel
theorem d_Mo_blocking_97 : decode b_Mo_blocking 97 = .ok (.iinc 4 1, 3) := by decide +kernel
theorem d_Mo_blocking_100 : decode b_Mo_blocking 100 = .ok (.goto (-73), 3) := by decide +kernel
theorem d_Mo_blocking_103 : decode b_Mo_blocking 103 = .ok (.iinc 3 1, 3) := by decide +kernel
theorem d_Mo_blocking_106 : decode b_Mo_blocking 106 = .ok (.goto (-92), 3) := by decide +kernel
theorem d_Mo_blocking_109 : decode b_Mo_blocking 109 = .ok (.iload_n 2, 1) := by decide +kernel
theorem d_Mo_blocking_110 : decode b_Mo_blocking 110 = .ok (.ireturn, 1) := by decide +kernel
theorem d_Mo_bound_0 : decode b_Mo_bound 0 = .ok (.aload_n 0, 1) := by decide +kernel
theorem d_Mo_bound_1 : decode b_Mo_bound 1 = .ok (.iload_n 1, 1) := by decide +kernel
theorem d_Mo_bound_2 : decode b_Mo_bound 2 = .ok (.invokevirtual 94, 3) := by decide +kernel
theorem d_Mo_bound_5 : decode b_Mo_bound 5 = .ok (.ifCond .eq 5, 3) := by decide +kernel
theorem d_Mo_bound_8 : decode b_Mo_bound 8 = .ok (.iconst (-1), 1) := by decide +kernel
theorem d_Mo_bound_9 : decode b_Mo_bound 9 = .ok (.ireturn, 1) := by decide +kernel
theorem d_Mo_bound_10 : decode b_Mo_bound 10 = .ok (.iconst 1, 1) := by decide +kernel
theorem d_Mo_bound_11 : decode b_Mo_bound 11 = .ok (.istore_n 2, 1) := by decide +kernel
theorem d_Mo_bound_12 : decode b_Mo_bound 12 = .ok (.iload_n 2, 1) := by decide +kernel
theorem d_Mo_bound_13 : decode b_Mo_bound 13 = .ok (.aload_n 0, 1) := by decide +kernel
theorem d_Mo_bound_14 : decode b_Mo_bound 14 = .ok (.getfield 32, 3) := by decide +kernel
theorem d_Mo_bound_17 : decode b_Mo_bound 17 = .ok (.iload_n 1, 1) := by decide +kernel
theorem d_Mo_bound_18 : decode b_Mo_bound 18 = .ok (.iaload, 1) := by decide +kernel
theorem d_Mo_bound_19 : decode b_Mo_bound 19 = .ok (.if_icmp .gt 99, 3) := by decide +kernel
theorem d_Mo_bound_22 : decode b_Mo_bound 22 = .ok (.aload_n 0, 1) := by decide +kernel
theorem d_Mo_bound_23 : decode b_Mo_bound 23 = .ok (.getfield 36, 3) := by decide +kernel
theorem d_Mo_bound_26 : decode b_Mo_bound 26 = .ok (.iload_n 1, 1) := by decide +kernel
theorem d_Mo_bound_27 : decode b_Mo_bound 27 = .ok (.iaload, 1) := by decide +kernel
theorem d_Mo_bound_28 : decode b_Mo_bound 28 = .ok (.aload_n 0, 1) := by decide +kernel
theorem d_Mo_bound_29 : decode b_Mo_bound 29 = .ok (.iload_n 1, 1) := by decide +kernel
theorem d_Mo_bound_30 : decode b_Mo_bound 30 = .ok (.invokevirtual 127, 3) := by decide +kernel
theorem d_Mo_bound_33 : decode b_Mo_bound 33 = .ok (.iadd, 1) := by decide +kernel
theorem d_Mo_bound_34 : decode b_Mo_bound 34 = .ok (.istore_n 3, 1) := by decide +kernel
theorem d_Mo_bound_35 : decode b_Mo_bound 35 = .ok (.iconst 0, 1) := by decide +kernel
theorem d_Mo_bound_36 : decode b_Mo_bound 36 = .ok (.istore 4, 2) := by decide +kernel
theorem d_Mo_bound_38 : decode b_Mo_bound 38 = .ok (.iload 4, 2) := by decide +kernel
theorem d_Mo_bound_40 : decode b_Mo_bound 40 = .ok (.aload_n 0, 1) := by decide +kernel
theorem d_Mo_bound_41 : decode b_Mo_bound 41 = .ok (.getfield 7, 3) := by decide +kernel
theorem d_Mo_bound_44 : decode b_Mo_bound 44 = .ok (.if_icmp .ge 61, 3) := by decide +kernel
theorem d_Mo_bound_47 : decode b_Mo_bound 47 = .ok (.iload 4, 2) := by decide +kernel
theorem d_Mo_bound_49 : decode b_Mo_bound 49 = .ok (.iload_n 1, 1) := by decide +kernel
theorem d_Mo_bound_50 : decode b_Mo_bound 50 = .ok (.if_icmp .eq 49, 3) := by decide +kernel
theorem d_Mo_bound_53 : decode b_Mo_bound 53 = .ok (.aload_n 0, 1) := by decide +kernel
theorem d_Mo_bound_54 : decode b_Mo_bound 54 = .ok (.getfield 42, 3) := by decide +kernel
theorem d_Mo_bound_57 : decode b_Mo_bound 57 = .ok (.iload 4, 2) := by decide +kernel
theorem d_Mo_bound_59 : decode b_Mo_bound 59 = .ok (.iaload, 1) := by decide +kernel
theorem d_Mo_bound_60 : decode b_Mo_bound 60 = .ok (.aload_n 0, 1) := by decide +kernel
theorem d_Mo_bound_61 : decode b_Mo_bound 61 = .ok (.getfield 42, 3) := by decide +kernel
theorem d_Mo_bound_64 : decode b_Mo_bound 64 = .ok (.iload_n 1, 1) := by decide +kernel
theorem d_Mo_bound_65 : decode b_Mo_bound 65 = .ok (.iaload, 1) := by decide +kernel
theorem d_Mo_bound_66 : decode b_Mo_bound 66 = .ok (.if_icmp .lt 33, 3) := by decide +kernel
theorem d_Mo_bound_69 : decode b_Mo_bound 69 = .ok (.iload_n 3, 1) := by decide +kernel
theorem d_Mo_bound_70 : decode b_Mo_bound 70 = .ok (.aload_n 0, 1) := by decide +kernel
theorem d_Mo_bound_71 : decode b_Mo_bound 71 = .ok (.getfield 36, 3) := by decide +kernel
theorem d_Mo_bound_74 : decode b_Mo_bound 74 = .ok (.iload 4, 2) := by decide +kernel
theorem d_Mo_bound_76 : decode b_Mo_bound 76 = .ok (.iaload, 1) := by decide +kernel
theorem d_Mo_bound_77 : decode b_Mo_bound 77 = .ok (.iload_n 2, 1) := by decide +kernel
theorem d_Mo_bound_78 : decode b_Mo_bound 78 = .ok (.aload_n 0, 1) := by decide +kernel
theorem d_Mo_bound_79 : decode b_Mo_bound 79 = .ok (.getfield 32, 3) := by decide +kernel
theorem d_Mo_bound_82 : decode b_Mo_bound 82 = .ok (.iload 4, 2) := by decide +kernel
theorem d_Mo_bound_84 : decode b_Mo_bound 84 = .ok (.iaload, 1) := by decide +kernel
theorem d_Mo_bound_85 : decode b_Mo_bound 85 = .ok (.iadd, 1) := by decide +kernel
theorem d_Mo_bound_86 : decode b_Mo_bound 86 = .ok (.iconst 1, 1) := by decide +kernel
theorem d_Mo_bound_87 : decode b_Mo_bound 87 = .ok (.isub, 1) := by decide +kernel
theorem d_Mo_bound_88 : decode b_Mo_bound 88 = .ok (.aload_n 0, 1) := by decide +kernel
theorem d_Mo_bound_89 : decode b_Mo_bound 89 = .ok (.getfield 32, 3) := by decide +kernel
theorem d_Mo_bound_92 : decode b_Mo_bound 92 = .ok (.iload 4, 2) := by decide +kernel
theorem d_Mo_bound_94 : decode b_Mo_bound 94 = .ok (.iaload, 1) := by decide +kernel
theorem d_Mo_bound_95 : decode b_Mo_bound 95 = .ok (.idiv, 1) := by decide +kernel
theorem d_Mo_bound_96 : decode b_Mo_bound 96 = .ok (.imul, 1) := by decide +kernel
theorem d_Mo_bound_97 : decode b_Mo_bound 97 = .ok (.iadd, 1) := by decide +kernel
theorem d_Mo_bound_98 : decode b_Mo_bound 98 = .ok (.istore_n 3, 1) := by decide +kernel
theorem d_Mo_bound_99 : decode b_Mo_bound 99 = .ok (.iinc 4 1, 3) := by decide +kernel
theorem d_Mo_bound_102 : decode b_Mo_bound 102 = .ok (.goto (-64), 3) := by decide +kernel
theorem d_Mo_bound_105 : decode b_Mo_bound 105 = .ok (.iload_n 3, 1) := by decide +kernel
theorem d_Mo_bound_106 : decode b_Mo_bound 106 = .ok (.iload_n 2, 1) := by decide +kernel
theorem d_Mo_bound_107 : decode b_Mo_bound 107 = .ok (.if_icmp .ne 5, 3) := by decide +kernel
theorem d_Mo_bound_110 : decode b_Mo_bound 110 = .ok (.iload_n 2, 1) := by decide +kernel
theorem d_Mo_bound_111 : decode b_Mo_bound 111 = .ok (.ireturn, 1) := by decide +kernel
theorem d_Mo_bound_112 : decode b_Mo_bound 112 = .ok (.iinc 2 1, 3) := by decide +kernel
theorem d_Mo_bound_115 : decode b_Mo_bound 115 = .ok (.goto (-103), 3) := by decide +kernel
theorem d_Mo_bound_118 : decode b_Mo_bound 118 = .ok (.bipush (-3), 2) := by decide +kernel
theorem d_Mo_bound_120 : decode b_Mo_bound 120 = .ok (.ireturn, 1) := by decide +kernel
theorem d_Mo_timeline_0 : decode b_Mo_timeline 0 = .ok (.iload_n 1, 1) := by decide +kernel
theorem d_Mo_timeline_1 : decode b_Mo_timeline 1 = .ok (.ifCond .lt 22, 3) := by decide +kernel
theorem d_Mo_timeline_4 : decode b_Mo_timeline 4 = .ok (.iload_n 1, 1) := by decide +kernel
theorem d_Mo_timeline_5 : decode b_Mo_timeline 5 = .ok (.aload_n 0, 1) := by decide +kernel
theorem d_Mo_timeline_6 : decode b_Mo_timeline 6 = .ok (.getfield 13, 3) := by decide +kernel
theorem d_Mo_timeline_9 : decode b_Mo_timeline 9 = .ok (.if_icmp .ge 14, 3) := by decide +kernel
theorem d_Mo_timeline_12 : decode b_Mo_timeline 12 = .ok (.iload_n 1, 1) := by decide +kernel
theorem d_Mo_timeline_13 : decode b_Mo_timeline 13 = .ok (.aload_n 0, 1) := by decide +kernel
theorem d_Mo_timeline_14 : decode b_Mo_timeline 14 = .ok (.getfield 13, 3) := by decide +kernel
theorem d_Mo_timeline_17 : decode b_Mo_timeline 17 = .ok (.bipush 64, 2) := by decide +kernel
theorem d_Mo_timeline_19 : decode b_Mo_timeline 19 = .ok (.isub, 1) := by decide +kernel
theorem d_Mo_timeline_20 : decode b_Mo_timeline 20 = .ok (.if_icmp .ge 7, 3) := by decide +kernel
theorem d_Mo_timeline_23 : decode b_Mo_timeline 23 = .ok (.iconst (-1), 1) := by decide +kernel
theorem d_Mo_timeline_24 : decode b_Mo_timeline 24 = .ok (.goto 12, 3) := by decide +kernel
theorem d_Mo_timeline_27 : decode b_Mo_timeline 27 = .ok (.aload_n 0, 1) := by decide +kernel
theorem d_Mo_timeline_28 : decode b_Mo_timeline 28 = .ok (.getfield 87, 3) := by decide +kernel
theorem d_Mo_timeline_31 : decode b_Mo_timeline 31 = .ok (.iload_n 1, 1) := by decide +kernel
theorem d_Mo_timeline_32 : decode b_Mo_timeline 32 = .ok (.bipush 64, 2) := by decide +kernel
theorem d_Mo_timeline_34 : decode b_Mo_timeline 34 = .ok (.irem, 1) := by decide +kernel
theorem d_Mo_timeline_35 : decode b_Mo_timeline 35 = .ok (.iaload, 1) := by decide +kernel
theorem d_Mo_timeline_36 : decode b_Mo_timeline 36 = .ok (.ireturn, 1) := by decide +kernel
theorem d_Mo_count_0 : decode b_Mo_count 0 = .ok (.iconst 0, 1) := by decide +kernel
theorem d_Mo_count_1 : decode b_Mo_count 1 = .ok (.istore_n 2, 1) := by decide +kernel
theorem d_Mo_count_2 : decode b_Mo_count 2 = .ok (.iconst 1, 1) := by decide +kernel
theorem d_Mo_count_3 : decode b_Mo_count 3 = .ok (.istore_n 3, 1) := by decide +kernel
theorem d_Mo_count_4 : decode b_Mo_count 4 = .ok (.iconst 0, 1) := by decide +kernel
theorem d_Mo_count_5 : decode b_Mo_count 5 = .ok (.istore 4, 2) := by decide +kernel
theorem d_Mo_count_7 : decode b_Mo_count 7 = .ok (.iload 4, 2) := by decide +kernel
theorem d_Mo_count_9 : decode b_Mo_count 9 = .ok (.aload_n 0, 1) := by decide +kernel
theorem d_Mo_count_10 : decode b_Mo_count 10 = .ok (.getfield 7, 3) := by decide +kernel
theorem d_Mo_count_13 : decode b_Mo_count 13 = .ok (.if_icmp .ge 55, 3) := by decide +kernel
theorem d_Mo_count_16 : decode b_Mo_count 16 = .ok (.iload_n 2, 1) := by decide +kernel
theorem d_Mo_count_17 : decode b_Mo_count 17 = .ok (.aload_n 0, 1) := by decide +kernel
theorem d_Mo_count_18 : decode b_Mo_count 18 = .ok (.getfield 63, 3) := by decide +kernel
theorem d_Mo_count_21 : decode b_Mo_count 21 = .ok (.iload 4, 2) := by decide +kernel
theorem d_Mo_count_23 : decode b_Mo_count 23 = .ok (.iaload, 1) := by decide +kernel
theorem d_Mo_count_24 : decode b_Mo_count 24 = .ok (.iadd, 1) := by decide +kernel
theorem d_Mo_count_25 : decode b_Mo_count 25 = .ok (.istore_n 2, 1) := by decide +kernel
theorem d_Mo_count_26 : decode b_Mo_count 26 = .ok (.iload_n 1, 1) := by decide +kernel
theorem d_Mo_count_27 : decode b_Mo_count 27 = .ok (.iconst 5, 1) := by decide +kernel
theorem d_Mo_count_28 : decode b_Mo_count 28 = .ok (.if_icmp .ne 12, 3) := by decide +kernel
theorem d_Mo_count_31 : decode b_Mo_count 31 = .ok (.aload_n 0, 1) := by decide +kernel
theorem d_Mo_count_32 : decode b_Mo_count 32 = .ok (.iload 4, 2) := by decide +kernel
theorem d_Mo_count_34 : decode b_Mo_count 34 = .ok (.invokevirtual 130, 3) := by decide +kernel
theorem d_Mo_count_37 : decode b_Mo_count 37 = .ok (.goto 4, 3) := by decide +kernel
theorem d_Mo_count_40 : decode b_Mo_count 40 = .ok (.iconst 1, 1) := by decide +kernel
theorem d_Mo_count_41 : decode b_Mo_count 41 = .ok (.istore 5, 2) := by decide +kernel
theorem d_Mo_count_43 : decode b_Mo_count 43 = .ok (.iload 5, 2) := by decide +kernel
theorem d_Mo_count_45 : decode b_Mo_count 45 = .ok (.ifCond .lt 15, 3) := by decide +kernel
theorem d_Mo_count_48 : decode b_Mo_count 48 = .ok (.iload 5, 2) := by decide +kernel
theorem d_Mo_count_50 : decode b_Mo_count 50 = .ok (.aload_n 0, 1) := by decide +kernel
theorem d_Mo_count_51 : decode b_Mo_count 51 = .ok (.getfield 39, 3) := by decide +kernel
theorem d_Mo_count_54 : decode b_Mo_count 54 = .ok (.iload 4, 2) := by decide +kernel
theorem d_Mo_count_56 : decode b_Mo_count 56 = .ok (.iaload, 1) := by decide +kernel
theorem d_Mo_count_57 : decode b_Mo_count 57 = .ok (.if_icmp .le 5, 3) := by decide +kernel
theorem d_Mo_count_60 : decode b_Mo_count 60 = .ok (.iconst 0, 1) := by decide +kernel
theorem d_Mo_count_61 : decode b_Mo_count 61 = .ok (.istore_n 3, 1) := by decide +kernel
theorem d_Mo_count_62 : decode b_Mo_count 62 = .ok (.iinc 4 1, 3) := by decide +kernel
theorem d_Mo_count_65 : decode b_Mo_count 65 = .ok (.goto (-58), 3) := by decide +kernel
theorem d_Mo_count_68 : decode b_Mo_count 68 = .ok (.iload_n 1, 1) := by decide +kernel
theorem d_Mo_count_69 : decode b_Mo_count 69 = .ok (.ifCond .ne 10, 3) := by decide +kernel
theorem d_Mo_count_72 : decode b_Mo_count 72 = .ok (.aload_n 0, 1) := by decide +kernel
theorem d_Mo_count_73 : decode b_Mo_count 73 = .ok (.getfield 13, 3) := by decide +kernel
theorem d_Mo_count_76 : decode b_Mo_count 76 = .ok (.goto 58, 3) := by decide +kernel
theorem d_Mo_count_79 : decode b_Mo_count 79 = .ok (.iload_n 1, 1) := by decide +kernel
theorem d_Mo_count_80 : decode b_Mo_count 80 = .ok (.iconst 1, 1) := by decide +kernel
theorem d_Mo_count_81 : decode b_Mo_count 81 = .ok (.if_icmp .ne 10, 3) := by decide +kernel
theorem d_Mo_count_84 : decode b_Mo_count 84 = .ok (.aload_n 0, 1) := by decide +kernel
theorem d_Mo_count_85 : decode b_Mo_count 85 = .ok (.getfield 16, 3) := by decide +kernel
theorem d_Mo_count_88 : decode b_Mo_count 88 = .ok (.goto 46, 3) := by decide +kernel
theorem d_Mo_count_91 : decode b_Mo_count 91 = .ok (.iload_n 1, 1) := by decide +kernel
theorem d_Mo_count_92 : decode b_Mo_count 92 = .ok (.iconst 2, 1) := by decide +kernel
theorem d_Mo_count_93 : decode b_Mo_count 93 = .ok (.if_icmp .ne 10, 3) := by decide +kernel
theorem d_Mo_count_96 : decode b_Mo_count 96 = .ok (.aload_n 0, 1) := by decide +kernel
theorem d_Mo_count_97 : decode b_Mo_count 97 = .ok (.getfield 19, 3) := by decide +kernel
theorem d_Mo_count_100 : decode b_Mo_count 100 = .ok (.goto 34, 3) := by decide +kernel
theorem d_Mo_count_103 : decode b_Mo_count 103 = .ok (.iload_n 1, 1) := by decide +kernel
theorem d_Mo_count_104 : decode b_Mo_count 104 = .ok (.iconst 3, 1) := by decide +kernel
theorem d_Mo_count_105 : decode b_Mo_count 105 = .ok (.if_icmp .ne 10, 3) := by decide +kernel
theorem d_Mo_count_108 : decode b_Mo_count 108 = .ok (.aload_n 0, 1) := by decide +kernel
theorem d_Mo_count_109 : decode b_Mo_count 109 = .ok (.getfield 7, 3) := by decide +kernel
theorem d_Mo_count_112 : decode b_Mo_count 112 = .ok (.goto 22, 3) := by decide +kernel
theorem d_Mo_count_115 : decode b_Mo_count 115 = .ok (.iload_n 1, 1) := by decide +kernel
theorem d_Mo_count_116 : decode b_Mo_count 116 = .ok (.iconst 4, 1) := by decide +kernel
theorem d_Mo_count_117 : decode b_Mo_count 117 = .ok (.if_icmp .ne 7, 3) := by decide +kernel
theorem d_Mo_count_120 : decode b_Mo_count 120 = .ok (.iload_n 2, 1) := by decide +kernel
theorem d_Mo_count_121 : decode b_Mo_count 121 = .ok (.goto 13, 3) := by decide +kernel
theorem d_Mo_count_124 : decode b_Mo_count 124 = .ok (.iload_n 1, 1) := by decide +kernel
theorem d_Mo_count_125 : decode b_Mo_count 125 = .ok (.iconst 5, 1) := by decide +kernel
theorem d_Mo_count_126 : decode b_Mo_count 126 = .ok (.if_icmp .ne 7, 3) := by decide +kernel
theorem d_Mo_count_129 : decode b_Mo_count 129 = .ok (.iload_n 3, 1) := by decide +kernel
theorem d_Mo_count_130 : decode b_Mo_count 130 = .ok (.goto 4, 3) := by decide +kernel
theorem d_Mo_count_133 : decode b_Mo_count 133 = .ok (.iconst (-1), 1) := by decide +kernel
theorem d_Mo_count_134 : decode b_Mo_count 134 = .ok (.ireturn, 1) := by decide +kernel
