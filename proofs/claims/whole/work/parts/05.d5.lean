theorem d_Mo_no_0 : decode b_Mo_no 0 = .ok (.iload_n 1, 1) := by decide +kernel
theorem d_Mo_no_1 : decode b_Mo_no 1 = .ok (.ifCond .lt 11, 3) := by decide +kernel
theorem d_Mo_no_4 : decode b_Mo_no 4 = .ok (.iload_n 1, 1) := by decide +kernel
theorem d_Mo_no_5 : decode b_Mo_no 5 = .ok (.aload_n 0, 1) := by decide +kernel
theorem d_Mo_no_6 : decode b_Mo_no 6 = .ok (.getfield 7, 3) := by decide +kernel
theorem d_Mo_no_9 : decode b_Mo_no 9 = .ok (.if_icmp .lt 7, 3) := by decide +kernel
theorem d_Mo_no_12 : decode b_Mo_no 12 = .ok (.iconst 1, 1) := by decide +kernel
theorem d_Mo_no_13 : decode b_Mo_no 13 = .ok (.goto 4, 3) := by decide +kernel
theorem d_Mo_no_16 : decode b_Mo_no 16 = .ok (.iconst 0, 1) := by decide +kernel
theorem d_Mo_no_17 : decode b_Mo_no 17 = .ok (.ireturn, 1) := by decide +kernel
theorem d_Mo_sectionAt_0 : decode b_Mo_sectionAt 0 = .ok (.iload_n 1, 1) := by decide +kernel
theorem d_Mo_sectionAt_1 : decode b_Mo_sectionAt 1 = .ok (.iconst 3, 1) := by decide +kernel
theorem d_Mo_sectionAt_2 : decode b_Mo_sectionAt 2 = .ok (.imul, 1) := by decide +kernel
theorem d_Mo_sectionAt_3 : decode b_Mo_sectionAt 3 = .ok (.istore_n 3, 1) := by decide +kernel
theorem d_Mo_sectionAt_4 : decode b_Mo_sectionAt 4 = .ok (.iload_n 3, 1) := by decide +kernel
theorem d_Mo_sectionAt_5 : decode b_Mo_sectionAt 5 = .ok (.iload_n 1, 1) := by decide +kernel
theorem d_Mo_sectionAt_6 : decode b_Mo_sectionAt 6 = .ok (.iconst 3, 1) := by decide +kernel
theorem d_Mo_sectionAt_7 : decode b_Mo_sectionAt 7 = .ok (.imul, 1) := by decide +kernel
theorem d_Mo_sectionAt_8 : decode b_Mo_sectionAt 8 = .ok (.aload_n 0, 1) := by decide +kernel
theorem d_Mo_sectionAt_9 : decode b_Mo_sectionAt 9 = .ok (.getfield 51, 3) := by decide +kernel
theorem d_Mo_sectionAt_12 : decode b_Mo_sectionAt 12 = .ok (.iload_n 1, 1) := by decide +kernel
theorem d_Mo_sectionAt_13 : decode b_Mo_sectionAt 13 = .ok (.iaload, 1) := by decide +kernel
theorem d_Mo_sectionAt_14 : decode b_Mo_sectionAt 14 = .ok (.iadd, 1) := by decide +kernel
theorem d_Mo_sectionAt_15 : decode b_Mo_sectionAt 15 = .ok (.if_icmp .ge 38, 3) := by decide +kernel
theorem d_Mo_sectionAt_18 : decode b_Mo_sectionAt 18 = .ok (.iload_n 2, 1) := by decide +kernel
theorem d_Mo_sectionAt_19 : decode b_Mo_sectionAt 19 = .ok (.aload_n 0, 1) := by decide +kernel
theorem d_Mo_sectionAt_20 : decode b_Mo_sectionAt 20 = .ok (.getfield 57, 3) := by decide +kernel
theorem d_Mo_sectionAt_23 : decode b_Mo_sectionAt 23 = .ok (.iload_n 3, 1) := by decide +kernel
theorem d_Mo_sectionAt_24 : decode b_Mo_sectionAt 24 = .ok (.iaload, 1) := by decide +kernel
theorem d_Mo_sectionAt_25 : decode b_Mo_sectionAt 25 = .ok (.if_icmp .lt 22, 3) := by decide +kernel
theorem d_Mo_sectionAt_28 : decode b_Mo_sectionAt 28 = .ok (.iload_n 2, 1) := by decide +kernel
theorem d_Mo_sectionAt_29 : decode b_Mo_sectionAt 29 = .ok (.aload_n 0, 1) := by decide +kernel
theorem d_Mo_sectionAt_30 : decode b_Mo_sectionAt 30 = .ok (.getfield 57, 3) := by decide +kernel
theorem d_Mo_sectionAt_33 : decode b_Mo_sectionAt 33 = .ok (.iload_n 3, 1) := by decide +kernel
theorem d_Mo_sectionAt_34 : decode b_Mo_sectionAt 34 = .ok (.iaload, 1) := by decide +kernel
theorem d_Mo_sectionAt_35 : decode b_Mo_sectionAt 35 = .ok (.aload_n 0, 1) := by decide +kernel
theorem d_Mo_sectionAt_36 : decode b_Mo_sectionAt 36 = .ok (.getfield 60, 3) := by decide +kernel
theorem d_Mo_sectionAt_39 : decode b_Mo_sectionAt 39 = .ok (.iload_n 3, 1) := by decide +kernel
theorem d_Mo_sectionAt_40 : decode b_Mo_sectionAt 40 = .ok (.iaload, 1) := by decide +kernel
theorem d_Mo_sectionAt_41 : decode b_Mo_sectionAt 41 = .ok (.iadd, 1) := by decide +kernel
theorem d_Mo_sectionAt_42 : decode b_Mo_sectionAt 42 = .ok (.if_icmp .ge 5, 3) := by decide +kernel
theorem d_Mo_sectionAt_45 : decode b_Mo_sectionAt 45 = .ok (.iload_n 3, 1) := by decide +kernel
theorem d_Mo_sectionAt_46 : decode b_Mo_sectionAt 46 = .ok (.ireturn, 1) := by decide +kernel
theorem d_Mo_sectionAt_47 : decode b_Mo_sectionAt 47 = .ok (.iinc 3 1, 3) := by decide +kernel
theorem d_Mo_sectionAt_50 : decode b_Mo_sectionAt 50 = .ok (.goto (-46), 3) := by decide +kernel
theorem d_Mo_sectionAt_53 : decode b_Mo_sectionAt 53 = .ok (.iconst (-1), 1) := by decide +kernel
theorem d_Mo_sectionAt_54 : decode b_Mo_sectionAt 54 = .ok (.ireturn, 1) := by decide +kernel
theorem d_Mo_start_0 : decode b_Mo_start 0 = .ok (.aload_n 0, 1) := by decide +kernel
theorem d_Mo_start_1 : decode b_Mo_start 1 = .ok (.getfield 28, 3) := by decide +kernel
theorem d_Mo_start_4 : decode b_Mo_start 4 = .ok (.ifCond .ne 10, 3) := by decide +kernel
theorem d_Mo_start_7 : decode b_Mo_start 7 = .ok (.aload_n 0, 1) := by decide +kernel
theorem d_Mo_start_8 : decode b_Mo_start 8 = .ok (.getfield 7, 3) := by decide +kernel
theorem d_Mo_start_11 : decode b_Mo_start 11 = .ok (.ifCond .ne 5, 3) := by decide +kernel
theorem d_Mo_start_14 : decode b_Mo_start 14 = .ok (.iconst (-1), 1) := by decide +kernel
theorem d_Mo_start_15 : decode b_Mo_start 15 = .ok (.ireturn, 1) := by decide +kernel
theorem d_Mo_start_16 : decode b_Mo_start 16 = .ok (.aload_n 0, 1) := by decide +kernel
theorem d_Mo_start_17 : decode b_Mo_start 17 = .ok (.iconst 1, 1) := by decide +kernel
theorem d_Mo_start_18 : decode b_Mo_start 18 = .ok (.putfield 28, 3) := by decide +kernel
theorem d_Mo_start_21 : decode b_Mo_start 21 = .ok (.iconst 0, 1) := by decide +kernel
theorem d_Mo_start_22 : decode b_Mo_start 22 = .ok (.ireturn, 1) := by decide +kernel
theorem d_Mo_event_0 : decode b_Mo_event 0 = .ok (.aload_n 0, 1) := by decide +kernel
theorem d_Mo_event_1 : decode b_Mo_event 1 = .ok (.getfield 28, 3) := by decide +kernel
theorem d_Mo_event_4 : decode b_Mo_event 4 = .ok (.ifCond .eq 20, 3) := by decide +kernel
theorem d_Mo_event_7 : decode b_Mo_event 7 = .ok (.aload_n 0, 1) := by decide +kernel
theorem d_Mo_event_8 : decode b_Mo_event 8 = .ok (.iload_n 1, 1) := by decide +kernel
theorem d_Mo_event_9 : decode b_Mo_event 9 = .ok (.invokevirtual 94, 3) := by decide +kernel
theorem d_Mo_event_12 : decode b_Mo_event 12 = .ok (.ifCond .ne 12, 3) := by decide +kernel
theorem d_Mo_event_15 : decode b_Mo_event 15 = .ok (.aload_n 0, 1) := by decide +kernel
theorem d_Mo_event_16 : decode b_Mo_event 16 = .ok (.getfield 45, 3) := by decide +kernel
theorem d_Mo_event_19 : decode b_Mo_event 19 = .ok (.iload_n 1, 1) := by decide +kernel
theorem d_Mo_event_20 : decode b_Mo_event 20 = .ok (.iaload, 1) := by decide +kernel
theorem d_Mo_event_21 : decode b_Mo_event 21 = .ok (.ifCond .lt 5, 3) := by decide +kernel
theorem d_Mo_event_24 : decode b_Mo_event 24 = .ok (.iconst (-1), 1) := by decide +kernel
theorem d_Mo_event_25 : decode b_Mo_event 25 = .ok (.ireturn, 1) := by decide +kernel
theorem d_Mo_event_26 : decode b_Mo_event 26 = .ok (.aload_n 0, 1) := by decide +kernel
theorem d_Mo_event_27 : decode b_Mo_event 27 = .ok (.getfield 72, 3) := by decide +kernel
theorem d_Mo_event_30 : decode b_Mo_event 30 = .ok (.iload_n 1, 1) := by decide +kernel
theorem d_Mo_event_31 : decode b_Mo_event 31 = .ok (.iaload, 1) := by decide +kernel
theorem d_Mo_event_32 : decode b_Mo_event 32 = .ok (.ifCond .le 25, 3) := by decide +kernel
theorem d_Mo_event_35 : decode b_Mo_event 35 = .ok (.aload_n 0, 1) := by decide +kernel
theorem d_Mo_event_36 : decode b_Mo_event 36 = .ok (.getfield 13, 3) := by decide +kernel
theorem d_Mo_event_39 : decode b_Mo_event 39 = .ok (.aload_n 0, 1) := by decide +kernel
theorem d_Mo_event_40 : decode b_Mo_event 40 = .ok (.getfield 84, 3) := by decide +kernel
theorem d_Mo_event_43 : decode b_Mo_event 43 = .ok (.iload_n 1, 1) := by decide +kernel
theorem d_Mo_event_44 : decode b_Mo_event 44 = .ok (.iaload, 1) := by decide +kernel
theorem d_Mo_event_45 : decode b_Mo_event 45 = .ok (.isub, 1) := by decide +kernel
theorem d_Mo_event_46 : decode b_Mo_event 46 = .ok (.aload_n 0, 1) := by decide +kernel
theorem d_Mo_event_47 : decode b_Mo_event 47 = .ok (.getfield 32, 3) := by decide +kernel
theorem d_Mo_event_50 : decode b_Mo_event 50 = .ok (.iload_n 1, 1) := by decide +kernel
theorem d_Mo_event_51 : decode b_Mo_event 51 = .ok (.iaload, 1) := by decide +kernel
theorem d_Mo_event_52 : decode b_Mo_event 52 = .ok (.if_icmp .ge 5, 3) := by decide +kernel
theorem d_Mo_event_55 : decode b_Mo_event 55 = .ok (.iconst (-1), 1) := by decide +kernel
theorem d_Mo_event_56 : decode b_Mo_event 56 = .ok (.ireturn, 1) := by decide +kernel
theorem d_Mo_event_57 : decode b_Mo_event 57 = .ok (.aload_n 0, 1) := by decide +kernel
theorem d_Mo_event_58 : decode b_Mo_event 58 = .ok (.getfield 63, 3) := by decide +kernel
theorem d_Mo_event_61 : decode b_Mo_event 61 = .ok (.iload_n 1, 1) := by decide +kernel
theorem d_Mo_event_62 : decode b_Mo_event 62 = .ok (.iaload, 1) := by decide +kernel
theorem d_Mo_event_63 : decode b_Mo_event 63 = .ok (.bipush 8, 2) := by decide +kernel
theorem d_Mo_event_65 : decode b_Mo_event 65 = .ok (.if_icmp .ne 6, 3) := by decide +kernel
theorem d_Mo_event_68 : decode b_Mo_event 68 = .ok (.bipush (-2), 2) := by decide +kernel
theorem d_Mo_event_70 : decode b_Mo_event 70 = .ok (.ireturn, 1) := by decide +kernel
theorem d_Mo_event_71 : decode b_Mo_event 71 = .ok (.aload_n 0, 1) := by decide +kernel
theorem d_Mo_event_72 : decode b_Mo_event 72 = .ok (.iload_n 1, 1) := by decide +kernel
theorem d_Mo_event_73 : decode b_Mo_event 73 = .ok (.invokevirtual 102, 3) := by decide +kernel
theorem d_Mo_event_76 : decode b_Mo_event 76 = .ok (.iconst 0, 1) := by decide +kernel
theorem d_Mo_event_77 : decode b_Mo_event 77 = .ok (.ireturn, 1) := by decide +kernel
theorem d_Mo_letGo_0 : decode b_Mo_letGo 0 = .ok (.aload_n 0, 1) := by decide +kernel
theorem d_Mo_letGo_1 : decode b_Mo_letGo 1 = .ok (.getfield 66, 3) := by decide +kernel
theorem d_Mo_letGo_4 : decode b_Mo_letGo 4 = .ok (.iload_n 1, 1) := by decide +kernel
theorem d_Mo_letGo_5 : decode b_Mo_letGo 5 = .ok (.bipush 8, 2) := by decide +kernel
theorem d_Mo_letGo_7 : decode b_Mo_letGo 7 = .ok (.imul, 1) := by decide +kernel
theorem d_Mo_letGo_8 : decode b_Mo_letGo 8 = .ok (.aload_n 0, 1) := by decide +kernel
theorem d_Mo_letGo_9 : decode b_Mo_letGo 9 = .ok (.getfield 63, 3) := by decide +kernel
theorem d_Mo_letGo_12 : decode b_Mo_letGo 12 = .ok (.iload_n 1, 1) := by decide +kernel
theorem d_Mo_letGo_13 : decode b_Mo_letGo 13 = .ok (.iaload, 1) := by decide +kernel
theorem d_Mo_letGo_14 : decode b_Mo_letGo 14 = .ok (.iadd, 1) := by decide +kernel
theorem d_Mo_letGo_15 : decode b_Mo_letGo 15 = .ok (.aload_n 0, 1) := by decide +kernel
theorem d_Mo_letGo_16 : decode b_Mo_letGo 16 = .ok (.getfield 13, 3) := by decide +kernel
theorem d_Mo_letGo_19 : decode b_Mo_letGo 19 = .ok (.iastore, 1) := by decide +kernel
theorem d_Mo_letGo_20 : decode b_Mo_letGo 20 = .ok (.aload_n 0, 1) := by decide +kernel
theorem d_Mo_letGo_21 : decode b_Mo_letGo 21 = .ok (.getfield 63, 3) := by decide +kernel
theorem d_Mo_letGo_24 : decode b_Mo_letGo 24 = .ok (.iload_n 1, 1) := by decide +kernel
theorem d_Mo_letGo_25 : decode b_Mo_letGo 25 = .ok (.dup2, 1) := by decide +kernel
theorem d_Mo_letGo_26 : decode b_Mo_letGo 26 = .ok (.iaload, 1) := by decide +kernel
theorem d_Mo_letGo_27 : decode b_Mo_letGo 27 = .ok (.iconst 1, 1) := by decide +kernel
theorem d_Mo_letGo_28 : decode b_Mo_letGo 28 = .ok (.iadd, 1) := by decide +kernel
theorem d_Mo_letGo_29 : decode b_Mo_letGo 29 = .ok (.iastore, 1) := by decide +kernel
theorem d_Mo_letGo_30 : decode b_Mo_letGo 30 = .ok (.aload_n 0, 1) := by decide +kernel
theorem d_Mo_letGo_31 : decode b_Mo_letGo 31 = .ok (.getfield 72, 3) := by decide +kernel
theorem d_Mo_letGo_34 : decode b_Mo_letGo 34 = .ok (.iload_n 1, 1) := by decide +kernel
theorem d_Mo_letGo_35 : decode b_Mo_letGo 35 = .ok (.dup2, 1) := by decide +kernel
theorem d_Mo_letGo_36 : decode b_Mo_letGo 36 = .ok (.iaload, 1) := by decide +kernel
theorem d_Mo_letGo_37 : decode b_Mo_letGo 37 = .ok (.iconst 1, 1) := by decide +kernel
theorem d_Mo_letGo_38 : decode b_Mo_letGo 38 = .ok (.iadd, 1) := by decide +kernel
theorem d_Mo_letGo_39 : decode b_Mo_letGo 39 = .ok (.iastore, 1) := by decide +kernel
theorem d_Mo_letGo_40 : decode b_Mo_letGo 40 = .ok (.aload_n 0, 1) := by decide +kernel
theorem d_Mo_letGo_41 : decode b_Mo_letGo 41 = .ok (.getfield 84, 3) := by decide +kernel
theorem d_Mo_letGo_44 : decode b_Mo_letGo 44 = .ok (.iload_n 1, 1) := by decide +kernel
theorem d_Mo_letGo_45 : decode b_Mo_letGo 45 = .ok (.aload_n 0, 1) := by decide +kernel
theorem d_Mo_letGo_46 : decode b_Mo_letGo 46 = .ok (.getfield 13, 3) := by decide +kernel
theorem d_Mo_letGo_49 : decode b_Mo_letGo 49 = .ok (.iastore, 1) := by decide +kernel
theorem d_Mo_letGo_50 : decode b_Mo_letGo 50 = .ok (.return_, 1) := by decide +kernel
theorem d_Mo_tick_0 : decode b_Mo_tick 0 = .ok (.aload_n 0, 1) := by decide +kernel
theorem d_Mo_tick_1 : decode b_Mo_tick 1 = .ok (.iload_n 1, 1) := by decide +kernel
theorem d_Mo_tick_2 : decode b_Mo_tick 2 = .ok (.iconst 1, 1) := by decide +kernel
theorem d_Mo_tick_3 : decode b_Mo_tick 3 = .ok (.sipush 200, 3) := by decide +kernel
theorem d_Mo_tick_6 : decode b_Mo_tick 6 = .ok (.invokevirtual 90, 3) := by decide +kernel
theorem d_Mo_tick_9 : decode b_Mo_tick 9 = .ok (.ifCond .ne 10, 3) := by decide +kernel
theorem d_Mo_tick_12 : decode b_Mo_tick 12 = .ok (.aload_n 0, 1) := by decide +kernel
theorem d_Mo_tick_13 : decode b_Mo_tick 13 = .ok (.getfield 28, 3) := by decide +kernel
theorem d_Mo_tick_16 : decode b_Mo_tick 16 = .ok (.ifCond .ne 5, 3) := by decide +kernel
theorem d_Mo_tick_19 : decode b_Mo_tick 19 = .ok (.iconst (-1), 1) := by decide +kernel
theorem d_Mo_tick_20 : decode b_Mo_tick 20 = .ok (.ireturn, 1) := by decide +kernel
theorem d_Mo_tick_21 : decode b_Mo_tick 21 = .ok (.iconst 0, 1) := by decide +kernel
theorem d_Mo_tick_22 : decode b_Mo_tick 22 = .ok (.istore_n 2, 1) := by decide +kernel
theorem d_Mo_tick_23 : decode b_Mo_tick 23 = .ok (.iload_n 2, 1) := by decide +kernel
theorem d_Mo_tick_24 : decode b_Mo_tick 24 = .ok (.iload_n 1, 1) := by decide +kernel
theorem d_Mo_tick_25 : decode b_Mo_tick 25 = .ok (.if_icmp .ge 16, 3) := by decide +kernel
theorem d_Mo_tick_28 : decode b_Mo_tick 28 = .ok (.aload_n 0, 1) := by decide +kernel
theorem d_Mo_tick_29 : decode b_Mo_tick 29 = .ok (.invokevirtual 123, 3) := by decide +kernel
theorem d_Mo_tick_32 : decode b_Mo_tick 32 = .ok (.ifCond .eq 9, 3) := by decide +kernel
theorem d_Mo_tick_35 : decode b_Mo_tick 35 = .ok (.iinc 2 1, 3) := by decide +kernel
theorem d_Mo_tick_38 : decode b_Mo_tick 38 = .ok (.goto (-15), 3) := by decide +kernel
theorem d_Mo_tick_41 : decode b_Mo_tick 41 = .ok (.iload_n 2, 1) := by decide +kernel
theorem d_Mo_tick_42 : decode b_Mo_tick 42 = .ok (.ifCond .ne 8, 3) := by decide +kernel
theorem d_Mo_tick_45 : decode b_Mo_tick 45 = .ok (.bipush (-2), 2) := by decide +kernel
theorem d_Mo_tick_47 : decode b_Mo_tick 47 = .ok (.goto 4, 3) := by decide +kernel
theorem d_Mo_tick_50 : decode b_Mo_tick 50 = .ok (.iload_n 2, 1) := by decide +kernel
theorem d_Mo_tick_51 : decode b_Mo_tick 51 = .ok (.ireturn, 1) := by decide +kernel
theorem d_Mo_unit_0 : decode b_Mo_unit 0 = .ok (.iconst 0, 1) := by decide +kernel
theorem d_Mo_unit_1 : decode b_Mo_unit 1 = .ok (.istore_n 1, 1) := by decide +kernel
theorem d_Mo_unit_2 : decode b_Mo_unit 2 = .ok (.iload_n 1, 1) := by decide +kernel
theorem d_Mo_unit_3 : decode b_Mo_unit 3 = .ok (.aload_n 0, 1) := by decide +kernel
theorem d_Mo_unit_4 : decode b_Mo_unit 4 = .ok (.getfield 7, 3) := by decide +kernel
theorem d_Mo_unit_7 : decode b_Mo_unit 7 = .ok (.if_icmp .ge 30, 3) := by decide +kernel
theorem d_Mo_unit_10 : decode b_Mo_unit 10 = .ok (.aload_n 0, 1) := by decide +kernel
theorem d_Mo_unit_11 : decode b_Mo_unit 11 = .ok (.iload_n 1, 1) := by decide +kernel
theorem d_Mo_unit_12 : decode b_Mo_unit 12 = .ok (.invokevirtual 113, 3) := by decide +kernel
theorem d_Mo_unit_15 : decode b_Mo_unit 15 = .ok (.ifCond .eq 16, 3) := by decide +kernel
theorem d_Mo_unit_18 : decode b_Mo_unit 18 = .ok (.aload_n 0, 1) := by decide +kernel
theorem d_Mo_unit_19 : decode b_Mo_unit 19 = .ok (.getfield 63, 3) := by decide +kernel
theorem d_Mo_unit_22 : decode b_Mo_unit 22 = .ok (.iload_n 1, 1) := by decide +kernel
theorem d_Mo_unit_23 : decode b_Mo_unit 23 = .ok (.iaload, 1) := by decide +kernel
theorem d_Mo_unit_24 : decode b_Mo_unit 24 = .ok (.bipush 8, 2) := by decide +kernel
theorem d_Mo_unit_26 : decode b_Mo_unit 26 = .ok (.if_icmp .ne 5, 3) := by decide +kernel
theorem d_Mo_unit_29 : decode b_Mo_unit 29 = .ok (.iconst 0, 1) := by decide +kernel
theorem d_Mo_unit_30 : decode b_Mo_unit 30 = .ok (.ireturn, 1) := by decide +kernel
theorem d_Mo_unit_31 : decode b_Mo_unit 31 = .ok (.iinc 1 1, 3) := by decide +kernel
theorem d_Mo_unit_34 : decode b_Mo_unit 34 = .ok (.goto (-32), 3) := by decide +kernel
theorem d_Mo_unit_37 : decode b_Mo_unit 37 = .ok (.iconst 0, 1) := by decide +kernel
theorem d_Mo_unit_38 : decode b_Mo_unit 38 = .ok (.istore_n 1, 1) := by decide +kernel
theorem d_Mo_unit_39 : decode b_Mo_unit 39 = .ok (.iload_n 1, 1) := by decide +kernel
theorem d_Mo_unit_40 : decode b_Mo_unit 40 = .ok (.aload_n 0, 1) := by decide +kernel
theorem d_Mo_unit_41 : decode b_Mo_unit 41 = .ok (.getfield 7, 3) := by decide +kernel
theorem d_Mo_unit_44 : decode b_Mo_unit 44 = .ok (.if_icmp .ge 22, 3) := by decide +kernel
theorem d_Mo_unit_47 : decode b_Mo_unit 47 = .ok (.aload_n 0, 1) := by decide +kernel
theorem d_Mo_unit_48 : decode b_Mo_unit 48 = .ok (.iload_n 1, 1) := by decide +kernel
theorem d_Mo_unit_49 : decode b_Mo_unit 49 = .ok (.invokevirtual 113, 3) := by decide +kernel
theorem d_Mo_unit_52 : decode b_Mo_unit 52 = .ok (.ifCond .eq 8, 3) := by decide +kernel
theorem d_Mo_unit_55 : decode b_Mo_unit 55 = .ok (.aload_n 0, 1) := by decide +kernel
theorem d_Mo_unit_56 : decode b_Mo_unit 56 = .ok (.iload_n 1, 1) := by decide +kernel
theorem d_Mo_unit_57 : decode b_Mo_unit 57 = .ok (.invokevirtual 102, 3) := by decide +kernel
theorem d_Mo_unit_60 : decode b_Mo_unit 60 = .ok (.iinc 1 1, 3) := by decide +kernel
theorem d_Mo_unit_63 : decode b_Mo_unit 63 = .ok (.goto (-24), 3) := by decide +kernel
theorem d_Mo_unit_66 : decode b_Mo_unit 66 = .ok (.iconst (-1), 1) := by decide +kernel
theorem d_Mo_unit_67 : decode b_Mo_unit 67 = .ok (.istore_n 1, 1) := by decide +kernel
theorem d_Mo_unit_68 : decode b_Mo_unit 68 = .ok (.iconst 0, 1) := by decide +kernel
theorem d_Mo_unit_69 : decode b_Mo_unit 69 = .ok (.istore_n 2, 1) := by decide +kernel
theorem d_Mo_unit_70 : decode b_Mo_unit 70 = .ok (.iload_n 2, 1) := by decide +kernel
theorem d_Mo_unit_71 : decode b_Mo_unit 71 = .ok (.aload_n 0, 1) := by decide +kernel
theorem d_Mo_unit_72 : decode b_Mo_unit 72 = .ok (.getfield 7, 3) := by decide +kernel
theorem d_Mo_unit_75 : decode b_Mo_unit 75 = .ok (.if_icmp .ge 33, 3) := by decide +kernel
theorem d_Mo_unit_78 : decode b_Mo_unit 78 = .ok (.aload_n 0, 1) := by decide +kernel
theorem d_Mo_unit_79 : decode b_Mo_unit 79 = .ok (.getfield 63, 3) := by decide +kernel
theorem d_Mo_unit_82 : decode b_Mo_unit 82 = .ok (.iload_n 2, 1) := by decide +kernel
theorem d_Mo_unit_83 : decode b_Mo_unit 83 = .ok (.iaload, 1) := by decide +kernel
theorem d_Mo_unit_84 : decode b_Mo_unit 84 = .ok (.ifCond .le 18, 3) := by decide +kernel
theorem d_Mo_unit_87 : decode b_Mo_unit 87 = .ok (.iload_n 1, 1) := by decide +kernel
theorem d_Mo_unit_88 : decode b_Mo_unit 88 = .ok (.ifCond .lt 12, 3) := by decide +kernel
theorem d_Mo_unit_91 : decode b_Mo_unit 91 = .ok (.aload_n 0, 1) := by decide +kernel
theorem d_Mo_unit_92 : decode b_Mo_unit 92 = .ok (.iload_n 2, 1) := by decide +kernel
theorem d_Mo_unit_93 : decode b_Mo_unit 93 = .ok (.iload_n 1, 1) := by decide +kernel
theorem d_Mo_unit_94 : decode b_Mo_unit 94 = .ok (.invokevirtual 116, 3) := by decide +kernel
theorem d_Mo_unit_97 : decode b_Mo_unit 97 = .ok (.ifCond .eq 5, 3) := by decide +kernel
theorem d_Mo_unit_100 : decode b_Mo_unit 100 = .ok (.iload_n 2, 1) := by decide +kernel
theorem d_Mo_unit_101 : decode b_Mo_unit 101 = .ok (.istore_n 1, 1) := by decide +kernel
theorem d_Mo_unit_102 : decode b_Mo_unit 102 = .ok (.iinc 2 1, 3) := by decide +kernel
theorem d_Mo_unit_105 : decode b_Mo_unit 105 = .ok (.goto (-35), 3) := by decide +kernel
theorem d_Mo_unit_108 : decode b_Mo_unit 108 = .ok (.iload_n 1, 1) := by decide +kernel
theorem d_Mo_unit_109 : decode b_Mo_unit 109 = .ok (.ifCond .lt 11, 3) := by decide +kernel
theorem d_Mo_unit_112 : decode b_Mo_unit 112 = .ok (.aload_n 0, 1) := by decide +kernel
theorem d_Mo_unit_113 : decode b_Mo_unit 113 = .ok (.iload_n 1, 1) := by decide +kernel
theorem d_Mo_unit_114 : decode b_Mo_unit 114 = .ok (.invokevirtual 120, 3) := by decide +kernel
theorem d_Mo_unit_117 : decode b_Mo_unit 117 = .ok (.goto 13, 3) := by decide +kernel
theorem d_Mo_unit_120 : decode b_Mo_unit 120 = .ok (.aload_n 0, 1) := by decide +kernel
theorem d_Mo_unit_121 : decode b_Mo_unit 121 = .ok (.dup, 1) := by decide +kernel
theorem d_Mo_unit_122 : decode b_Mo_unit 122 = .ok (.getfield 16, 3) := by decide +kernel
theorem d_Mo_unit_125 : decode b_Mo_unit 125 = .ok (.iconst 1, 1) := by decide +kernel
theorem d_Mo_unit_126 : decode b_Mo_unit 126 = .ok (.iadd, 1) := by decide +kernel
theorem d_Mo_unit_127 : decode b_Mo_unit 127 = .ok (.putfield 16, 3) := by decide +kernel
theorem d_Mo_unit_130 : decode b_Mo_unit 130 = .ok (.aload_n 0, 1) := by decide +kernel
theorem d_Mo_unit_131 : decode b_Mo_unit 131 = .ok (.iload_n 1, 1) := by decide +kernel
theorem d_Mo_unit_132 : decode b_Mo_unit 132 = .ok (.ifCond .ge 8, 3) := by decide +kernel
theorem d_Mo_unit_135 : decode b_Mo_unit 135 = .ok (.bipush (-3), 2) := by decide +kernel
theorem d_Mo_unit_137 : decode b_Mo_unit 137 = .ok (.goto 4, 3) := by decide +kernel
theorem d_Mo_unit_140 : decode b_Mo_unit 140 = .ok (.iload_n 1, 1) := by decide +kernel
theorem d_Mo_unit_141 : decode b_Mo_unit 141 = .ok (.putfield 22, 3) := by decide +kernel
theorem d_Mo_unit_144 : decode b_Mo_unit 144 = .ok (.aload_n 0, 1) := by decide +kernel
theorem d_Mo_unit_145 : decode b_Mo_unit 145 = .ok (.getfield 87, 3) := by decide +kernel
theorem d_Mo_unit_148 : decode b_Mo_unit 148 = .ok (.aload_n 0, 1) := by decide +kernel
theorem d_Mo_unit_149 : decode b_Mo_unit 149 = .ok (.getfield 13, 3) := by decide +kernel
theorem d_Mo_unit_152 : decode b_Mo_unit 152 = .ok (.bipush 64, 2) := by decide +kernel
theorem d_Mo_unit_154 : decode b_Mo_unit 154 = .ok (.irem, 1) := by decide +kernel
theorem d_Mo_unit_155 : decode b_Mo_unit 155 = .ok (.aload_n 0, 1) := by decide +kernel
theorem d_Mo_unit_156 : decode b_Mo_unit 156 = .ok (.getfield 22, 3) := by decide +kernel
theorem d_Mo_unit_159 : decode b_Mo_unit 159 = .ok (.iastore, 1) := by decide +kernel
theorem d_Mo_unit_160 : decode b_Mo_unit 160 = .ok (.aload_n 0, 1) := by decide +kernel
theorem d_Mo_unit_161 : decode b_Mo_unit 161 = .ok (.dup, 1) := by decide +kernel
theorem d_Mo_unit_162 : decode b_Mo_unit 162 = .ok (.getfield 13, 3) := by decide +kernel
theorem d_Mo_unit_165 : decode b_Mo_unit 165 = .ok (.iconst 1, 1) := by decide +kernel
theorem d_Mo_unit_166 : decode b_Mo_unit 166 = .ok (.iadd, 1) := by decide +kernel
theorem d_Mo_unit_167 : decode b_Mo_unit 167 = .ok (.putfield 13, 3) := by decide +kernel
theorem d_Mo_unit_170 : decode b_Mo_unit 170 = .ok (.iconst 0, 1) := by decide +kernel
theorem d_Mo_unit_171 : decode b_Mo_unit 171 = .ok (.istore_n 2, 1) := by decide +kernel
theorem d_Mo_unit_172 : decode b_Mo_unit 172 = .ok (.iload_n 2, 1) := by decide +kernel
theorem d_Mo_unit_173 : decode b_Mo_unit 173 = .ok (.aload_n 0, 1) := by decide +kernel
theorem d_Mo_unit_174 : decode b_Mo_unit 174 = .ok (.getfield 7, 3) := by decide +kernel
theorem d_Mo_unit_177 : decode b_Mo_unit 177 = .ok (.if_icmp .ge 65, 3) := by decide +kernel
theorem d_Mo_unit_180 : decode b_Mo_unit 180 = .ok (.iload_n 2, 1) := by decide +kernel
theorem d_Mo_unit_181 : decode b_Mo_unit 181 = .ok (.bipush 8, 2) := by decide +kernel
theorem d_Mo_unit_183 : decode b_Mo_unit 183 = .ok (.imul, 1) := by decide +kernel
theorem d_Mo_unit_184 : decode b_Mo_unit 184 = .ok (.istore_n 3, 1) := by decide +kernel
theorem d_Mo_unit_185 : decode b_Mo_unit 185 = .ok (.iload_n 3, 1) := by decide +kernel
theorem d_Mo_unit_186 : decode b_Mo_unit 186 = .ok (.iload_n 2, 1) := by decide +kernel
theorem d_Mo_unit_187 : decode b_Mo_unit 187 = .ok (.bipush 8, 2) := by decide +kernel
theorem d_Mo_unit_189 : decode b_Mo_unit 189 = .ok (.imul, 1) := by decide +kernel
theorem d_Mo_unit_190 : decode b_Mo_unit 190 = .ok (.aload_n 0, 1) := by decide +kernel
theorem d_Mo_unit_191 : decode b_Mo_unit 191 = .ok (.getfield 63, 3) := by decide +kernel
theorem d_Mo_unit_194 : decode b_Mo_unit 194 = .ok (.iload_n 2, 1) := by decide +kernel
theorem d_Mo_unit_195 : decode b_Mo_unit 195 = .ok (.iaload, 1) := by decide +kernel
theorem d_Mo_unit_196 : decode b_Mo_unit 196 = .ok (.iadd, 1) := by decide +kernel
theorem d_Mo_unit_197 : decode b_Mo_unit 197 = .ok (.if_icmp .ge 39, 3) := by decide +kernel
theorem d_Mo_unit_200 : decode b_Mo_unit 200 = .ok (.aload_n 0, 1) := by decide +kernel
theorem d_Mo_unit_201 : decode b_Mo_unit 201 = .ok (.getfield 66, 3) := by decide +kernel
theorem d_Mo_unit_204 : decode b_Mo_unit 204 = .ok (.iload_n 3, 1) := by decide +kernel
theorem d_Mo_unit_205 : decode b_Mo_unit 205 = .ok (.iaload, 1) := by decide +kernel
theorem d_Mo_unit_206 : decode b_Mo_unit 206 = .ok (.aload_n 0, 1) := by decide +kernel
theorem d_Mo_unit_207 : decode b_Mo_unit 207 = .ok (.getfield 39, 3) := by decide +kernel
theorem d_Mo_unit_210 : decode b_Mo_unit 210 = .ok (.iload_n 2, 1) := by decide +kernel
theorem d_Mo_unit_211 : decode b_Mo_unit 211 = .ok (.iaload, 1) := by decide +kernel
theorem d_Mo_unit_212 : decode b_Mo_unit 212 = .ok (.iadd, 1) := by decide +kernel
theorem d_Mo_unit_213 : decode b_Mo_unit 213 = .ok (.aload_n 0, 1) := by decide +kernel
theorem d_Mo_unit_214 : decode b_Mo_unit 214 = .ok (.getfield 13, 3) := by decide +kernel
theorem d_Mo_unit_217 : decode b_Mo_unit 217 = .ok (.if_icmp .ne 13, 3) := by decide +kernel
theorem d_Mo_unit_220 : decode b_Mo_unit 220 = .ok (.aload_n 0, 1) := by decide +kernel
theorem d_Mo_unit_221 : decode b_Mo_unit 221 = .ok (.getfield 78, 3) := by decide +kernel
theorem d_Mo_unit_224 : decode b_Mo_unit 224 = .ok (.iload_n 2, 1) := by decide +kernel
theorem d_Mo_unit_225 : decode b_Mo_unit 225 = .ok (.dup2, 1) := by decide +kernel
theorem d_Mo_unit_226 : decode b_Mo_unit 226 = .ok (.iaload, 1) := by decide +kernel
theorem d_Mo_unit_227 : decode b_Mo_unit 227 = .ok (.iconst 1, 1) := by decide +kernel
theorem d_Mo_unit_228 : decode b_Mo_unit 228 = .ok (.iadd, 1) := by decide +kernel
theorem d_Mo_unit_229 : decode b_Mo_unit 229 = .ok (.iastore, 1) := by decide +kernel
theorem d_Mo_unit_230 : decode b_Mo_unit 230 = .ok (.iinc 3 1, 3) := by decide +kernel
theorem d_Mo_unit_233 : decode b_Mo_unit 233 = .ok (.goto (-48), 3) := by decide +kernel
theorem d_Mo_unit_236 : decode b_Mo_unit 236 = .ok (.iinc 2 1, 3) := by decide +kernel
theorem d_Mo_unit_239 : decode b_Mo_unit 239 = .ok (.goto (-67), 3) := by decide +kernel
theorem d_Mo_unit_242 : decode b_Mo_unit 242 = .ok (.iconst 1, 1) := by decide +kernel
theorem d_Mo_unit_243 : decode b_Mo_unit 243 = .ok (.ireturn, 1) := by decide +kernel
theorem d_Mo_comes_0 : decode b_Mo_comes 0 = .ok (.aload_n 0, 1) := by decide +kernel
theorem d_Mo_comes_1 : decode b_Mo_comes 1 = .ok (.getfield 45, 3) := by decide +kernel
theorem d_Mo_comes_4 : decode b_Mo_comes 4 = .ok (.iload_n 1, 1) := by decide +kernel
theorem d_Mo_comes_5 : decode b_Mo_comes 5 = .ok (.iaload, 1) := by decide +kernel
theorem d_Mo_comes_6 : decode b_Mo_comes 6 = .ok (.ifCond .lt 41, 3) := by decide +kernel
theorem d_Mo_comes_9 : decode b_Mo_comes 9 = .ok (.aload_n 0, 1) := by decide +kernel
theorem d_Mo_comes_10 : decode b_Mo_comes 10 = .ok (.getfield 13, 3) := by decide +kernel
theorem d_Mo_comes_13 : decode b_Mo_comes 13 = .ok (.aload_n 0, 1) := by decide +kernel
theorem d_Mo_comes_14 : decode b_Mo_comes 14 = .ok (.getfield 45, 3) := by decide +kernel
theorem d_Mo_comes_17 : decode b_Mo_comes 17 = .ok (.iload_n 1, 1) := by decide +kernel
theorem d_Mo_comes_18 : decode b_Mo_comes 18 = .ok (.iaload, 1) := by decide +kernel
theorem d_Mo_comes_19 : decode b_Mo_comes 19 = .ok (.if_icmp .lt 28, 3) := by decide +kernel
theorem d_Mo_comes_22 : decode b_Mo_comes 22 = .ok (.aload_n 0, 1) := by decide +kernel
theorem d_Mo_comes_23 : decode b_Mo_comes 23 = .ok (.getfield 13, 3) := by decide +kernel
theorem d_Mo_comes_26 : decode b_Mo_comes 26 = .ok (.aload_n 0, 1) := by decide +kernel
theorem d_Mo_comes_27 : decode b_Mo_comes 27 = .ok (.getfield 45, 3) := by decide +kernel
theorem d_Mo_comes_30 : decode b_Mo_comes 30 = .ok (.iload_n 1, 1) := by decide +kernel
theorem d_Mo_comes_31 : decode b_Mo_comes 31 = .ok (.iaload, 1) := by decide +kernel
theorem d_Mo_comes_32 : decode b_Mo_comes 32 = .ok (.isub, 1) := by decide +kernel
theorem d_Mo_comes_33 : decode b_Mo_comes 33 = .ok (.aload_n 0, 1) := by decide +kernel
theorem d_Mo_comes_34 : decode b_Mo_comes 34 = .ok (.getfield 32, 3) := by decide +kernel
theorem d_Mo_comes_37 : decode b_Mo_comes 37 = .ok (.iload_n 1, 1) := by decide +kernel
theorem d_Mo_comes_38 : decode b_Mo_comes 38 = .ok (.iaload, 1) := by decide +kernel
theorem d_Mo_comes_39 : decode b_Mo_comes 39 = .ok (.irem, 1) := by decide +kernel
theorem d_Mo_comes_40 : decode b_Mo_comes 40 = .ok (.ifCond .ne 7, 3) := by decide +kernel
theorem d_Mo_comes_43 : decode b_Mo_comes 43 = .ok (.iconst 1, 1) := by decide +kernel
theorem d_Mo_comes_44 : decode b_Mo_comes 44 = .ok (.goto 4, 3) := by decide +kernel
theorem d_Mo_comes_47 : decode b_Mo_comes 47 = .ok (.iconst 0, 1) := by decide +kernel
theorem d_Mo_comes_48 : decode b_Mo_comes 48 = .ok (.ireturn, 1) := by decide +kernel
theorem d_Mo_goesBefore_0 : decode b_Mo_goesBefore 0 = .ok (.aload_n 0, 1) := by decide +kernel
theorem d_Mo_goesBefore_1 : decode b_Mo_goesBefore 1 = .ok (.iload_n 1, 1) := by decide +kernel
theorem d_Mo_goesBefore_2 : decode b_Mo_goesBefore 2 = .ok (.invokevirtual 110, 3) := by decide +kernel
theorem d_Mo_goesBefore_5 : decode b_Mo_goesBefore 5 = .ok (.aload_n 0, 1) := by decide +kernel
theorem d_Mo_goesBefore_6 : decode b_Mo_goesBefore 6 = .ok (.iload_n 2, 1) := by decide +kernel
theorem d_Mo_goesBefore_7 : decode b_Mo_goesBefore 7 = .ok (.invokevirtual 110, 3) := by decide +kernel
theorem d_Mo_goesBefore_10 : decode b_Mo_goesBefore 10 = .ok (.if_icmp .eq 22, 3) := by decide +kernel
theorem d_Mo_goesBefore_13 : decode b_Mo_goesBefore 13 = .ok (.aload_n 0, 1) := by decide +kernel
theorem d_Mo_goesBefore_14 : decode b_Mo_goesBefore 14 = .ok (.iload_n 1, 1) := by decide +kernel
theorem d_Mo_goesBefore_15 : decode b_Mo_goesBefore 15 = .ok (.invokevirtual 110, 3) := by decide +kernel
theorem d_Mo_goesBefore_18 : decode b_Mo_goesBefore 18 = .ok (.aload_n 0, 1) := by decide +kernel
theorem d_Mo_goesBefore_19 : decode b_Mo_goesBefore 19 = .ok (.iload_n 2, 1) := by decide +kernel
theorem d_Mo_goesBefore_20 : decode b_Mo_goesBefore 20 = .ok (.invokevirtual 110, 3) := by decide +kernel
theorem d_Mo_goesBefore_23 : decode b_Mo_goesBefore 23 = .ok (.if_icmp .le 7, 3) := by decide +kernel
theorem d_Mo_goesBefore_26 : decode b_Mo_goesBefore 26 = .ok (.iconst 1, 1) := by decide +kernel
theorem d_Mo_goesBefore_27 : decode b_Mo_goesBefore 27 = .ok (.goto 4, 3) := by decide +kernel
theorem d_Mo_goesBefore_30 : decode b_Mo_goesBefore 30 = .ok (.iconst 0, 1) := by decide +kernel
theorem d_Mo_goesBefore_31 : decode b_Mo_goesBefore 31 = .ok (.ireturn, 1) := by decide +kernel
theorem d_Mo_goesBefore_32 : decode b_Mo_goesBefore 32 = .ok (.aload_n 0, 1) := by decide +kernel
theorem d_Mo_goesBefore_33 : decode b_Mo_goesBefore 33 = .ok (.iload_n 1, 1) := by decide +kernel
theorem d_Mo_goesBefore_34 : decode b_Mo_goesBefore 34 = .ok (.invokevirtual 106, 3) := by decide +kernel
theorem d_Mo_goesBefore_37 : decode b_Mo_goesBefore 37 = .ok (.ifCond .lt 7, 3) := by decide +kernel
theorem d_Mo_goesBefore_40 : decode b_Mo_goesBefore 40 = .ok (.iconst 1, 1) := by decide +kernel
theorem d_Mo_goesBefore_41 : decode b_Mo_goesBefore 41 = .ok (.goto 4, 3) := by decide +kernel
theorem d_Mo_goesBefore_44 : decode b_Mo_goesBefore 44 = .ok (.iconst 0, 1) := by decide +kernel
theorem d_Mo_goesBefore_45 : decode b_Mo_goesBefore 45 = .ok (.aload_n 0, 1) := by decide +kernel
theorem d_Mo_goesBefore_46 : decode b_Mo_goesBefore 46 = .ok (.iload_n 2, 1) := by decide +kernel
theorem d_Mo_goesBefore_47 : decode b_Mo_goesBefore 47 = .ok (.invokevirtual 106, 3) := by decide +kernel
theorem d_Mo_goesBefore_50 : decode b_Mo_goesBefore 50 = .ok (.ifCond .lt 7, 3) := by decide +kernel
theorem d_Mo_goesBefore_53 : decode b_Mo_goesBefore 53 = .ok (.iconst 1, 1) := by decide +kernel
theorem d_Mo_goesBefore_54 : decode b_Mo_goesBefore 54 = .ok (.goto 4, 3) := by decide +kernel
theorem d_Mo_goesBefore_57 : decode b_Mo_goesBefore 57 = .ok (.iconst 0, 1) := by decide +kernel
theorem d_Mo_goesBefore_58 : decode b_Mo_goesBefore 58 = .ok (.if_icmp .eq 17, 3) := by decide +kernel
theorem d_Mo_goesBefore_61 : decode b_Mo_goesBefore 61 = .ok (.aload_n 0, 1) := by decide +kernel
theorem d_Mo_goesBefore_62 : decode b_Mo_goesBefore 62 = .ok (.iload_n 1, 1) := by decide +kernel
theorem d_Mo_goesBefore_63 : decode b_Mo_goesBefore 63 = .ok (.invokevirtual 106, 3) := by decide +kernel
theorem d_Mo_goesBefore_66 : decode b_Mo_goesBefore 66 = .ok (.ifCond .lt 7, 3) := by decide +kernel
theorem d_Mo_goesBefore_69 : decode b_Mo_goesBefore 69 = .ok (.iconst 1, 1) := by decide +kernel
theorem d_Mo_goesBefore_70 : decode b_Mo_goesBefore 70 = .ok (.goto 4, 3) := by decide +kernel
theorem d_Mo_goesBefore_73 : decode b_Mo_goesBefore 73 = .ok (.iconst 0, 1) := by decide +kernel
theorem d_Mo_goesBefore_74 : decode b_Mo_goesBefore 74 = .ok (.ireturn, 1) := by decide +kernel
theorem d_Mo_goesBefore_75 : decode b_Mo_goesBefore 75 = .ok (.iload_n 1, 1) := by decide +kernel
theorem d_Mo_goesBefore_76 : decode b_Mo_goesBefore 76 = .ok (.aload_n 0, 1) := by decide +kernel
theorem d_Mo_goesBefore_77 : decode b_Mo_goesBefore 77 = .ok (.getfield 22, 3) := by decide +kernel
theorem d_Mo_goesBefore_80 : decode b_Mo_goesBefore 80 = .ok (.if_icmp .eq 11, 3) := by decide +kernel
theorem d_Mo_goesBefore_83 : decode b_Mo_goesBefore 83 = .ok (.iload_n 2, 1) := by decide +kernel
theorem d_Mo_goesBefore_84 : decode b_Mo_goesBefore 84 = .ok (.aload_n 0, 1) := by decide +kernel
theorem d_Mo_goesBefore_85 : decode b_Mo_goesBefore 85 = .ok (.getfield 22, 3) := by decide +kernel
theorem d_Mo_goesBefore_88 : decode b_Mo_goesBefore 88 = .ok (.if_icmp .ne 17, 3) := by decide +kernel
theorem d_Mo_goesBefore_91 : decode b_Mo_goesBefore 91 = .ok (.iload_n 1, 1) := by decide +kernel
theorem d_Mo_goesBefore_92 : decode b_Mo_goesBefore 92 = .ok (.aload_n 0, 1) := by decide +kernel
theorem d_Mo_goesBefore_93 : decode b_Mo_goesBefore 93 = .ok (.getfield 22, 3) := by decide +kernel
theorem d_Mo_goesBefore_96 : decode b_Mo_goesBefore 96 = .ok (.if_icmp .ne 7, 3) := by decide +kernel
theorem d_Mo_goesBefore_99 : decode b_Mo_goesBefore 99 = .ok (.iconst 1, 1) := by decide +kernel
theorem d_Mo_goesBefore_100 : decode b_Mo_goesBefore 100 = .ok (.goto 4, 3) := by decide +kernel
theorem d_Mo_goesBefore_103 : decode b_Mo_goesBefore 103 = .ok (.iconst 0, 1) := by decide +kernel
theorem d_Mo_goesBefore_104 : decode b_Mo_goesBefore 104 = .ok (.ireturn, 1) := by decide +kernel
theorem d_Mo_goesBefore_105 : decode b_Mo_goesBefore 105 = .ok (.aload_n 0, 1) := by decide +kernel
theorem d_Mo_goesBefore_106 : decode b_Mo_goesBefore 106 = .ok (.getfield 66, 3) := by decide +kernel
theorem d_Mo_goesBefore_109 : decode b_Mo_goesBefore 109 = .ok (.iload_n 1, 1) := by decide +kernel
theorem d_Mo_goesBefore_110 : decode b_Mo_goesBefore 110 = .ok (.bipush 8, 2) := by decide +kernel
theorem d_Mo_goesBefore_112 : decode b_Mo_goesBefore 112 = .ok (.imul, 1) := by decide +kernel
theorem d_Mo_goesBefore_113 : decode b_Mo_goesBefore 113 = .ok (.iaload, 1) := by decide +kernel
theorem d_Mo_goesBefore_114 : decode b_Mo_goesBefore 114 = .ok (.aload_n 0, 1) := by decide +kernel
theorem d_Mo_goesBefore_115 : decode b_Mo_goesBefore 115 = .ok (.getfield 66, 3) := by decide +kernel
theorem d_Mo_goesBefore_118 : decode b_Mo_goesBefore 118 = .ok (.iload_n 2, 1) := by decide +kernel
theorem d_Mo_goesBefore_119 : decode b_Mo_goesBefore 119 = .ok (.bipush 8, 2) := by decide +kernel
theorem d_Mo_goesBefore_121 : decode b_Mo_goesBefore 121 = .ok (.imul, 1) := by decide +kernel
theorem d_Mo_goesBefore_122 : decode b_Mo_goesBefore 122 = .ok (.iaload, 1) := by decide +kernel
theorem d_Mo_goesBefore_123 : decode b_Mo_goesBefore 123 = .ok (.if_icmp .eq 30, 3) := by decide +kernel
theorem d_Mo_goesBefore_126 : decode b_Mo_goesBefore 126 = .ok (.aload_n 0, 1) := by decide +kernel
theorem d_Mo_goesBefore_127 : decode b_Mo_goesBefore 127 = .ok (.getfield 66, 3) := by decide +kernel
theorem d_Mo_goesBefore_130 : decode b_Mo_goesBefore 130 = .ok (.iload_n 1, 1) := by decide +kernel
theorem d_Mo_goesBefore_131 : decode b_Mo_goesBefore 131 = .ok (.bipush 8, 2) := by decide +kernel
theorem d_Mo_goesBefore_133 : decode b_Mo_goesBefore 133 = .ok (.imul, 1) := by decide +kernel
theorem d_Mo_goesBefore_134 : decode b_Mo_goesBefore 134 = .ok (.iaload, 1) := by decide +kernel
theorem d_Mo_goesBefore_135 : decode b_Mo_goesBefore 135 = .ok (.aload_n 0, 1) := by decide +kernel
theorem d_Mo_goesBefore_136 : decode b_Mo_goesBefore 136 = .ok (.getfield 66, 3) := by decide +kernel
theorem d_Mo_goesBefore_139 : decode b_Mo_goesBefore 139 = .ok (.iload_n 2, 1) := by decide +kernel
theorem d_Mo_goesBefore_140 : decode b_Mo_goesBefore 140 = .ok (.bipush 8, 2) := by decide +kernel
theorem d_Mo_goesBefore_142 : decode b_Mo_goesBefore 142 = .ok (.imul, 1) := by decide +kernel
theorem d_Mo_goesBefore_143 : decode b_Mo_goesBefore 143 = .ok (.iaload, 1) := by decide +kernel
theorem d_Mo_goesBefore_144 : decode b_Mo_goesBefore 144 = .ok (.if_icmp .ge 7, 3) := by decide +kernel
theorem d_Mo_goesBefore_147 : decode b_Mo_goesBefore 147 = .ok (.iconst 1, 1) := by decide +kernel
theorem d_Mo_goesBefore_148 : decode b_Mo_goesBefore 148 = .ok (.goto 4, 3) := by decide +kernel
theorem d_Mo_goesBefore_151 : decode b_Mo_goesBefore 151 = .ok (.iconst 0, 1) := by decide +kernel
theorem d_Mo_goesBefore_152 : decode b_Mo_goesBefore 152 = .ok (.ireturn, 1) := by decide +kernel
theorem d_Mo_goesBefore_153 : decode b_Mo_goesBefore 153 = .ok (.iload_n 1, 1) := by decide +kernel
theorem d_Mo_goesBefore_154 : decode b_Mo_goesBefore 154 = .ok (.iload_n 2, 1) := by decide +kernel
theorem d_Mo_goesBefore_155 : decode b_Mo_goesBefore 155 = .ok (.if_icmp .ge 7, 3) := by decide +kernel
theorem d_Mo_goesBefore_158 : decode b_Mo_goesBefore 158 = .ok (.iconst 1, 1) := by decide +kernel
theorem d_Mo_goesBefore_159 : decode b_Mo_goesBefore 159 = .ok (.goto 4, 3) := by decide +kernel
theorem d_Mo_goesBefore_162 : decode b_Mo_goesBefore 162 = .ok (.iconst 0, 1) := by decide +kernel
theorem d_Mo_goesBefore_163 : decode b_Mo_goesBefore 163 = .ok (.ireturn, 1) := by decide +kernel
