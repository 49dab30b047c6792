theorem d_Cs_isNoTask_0 : decode b_Cs_isNoTask 0 = .ok (.iload_n 1, 1) := by decide +kernel
theorem d_Cs_isNoTask_1 : decode b_Cs_isNoTask 1 = .ok (.iconst 0, 1) := by decide +kernel
theorem d_Cs_isNoTask_2 : decode b_Cs_isNoTask 2 = .ok (.aload_n 0, 1) := by decide +kernel
theorem d_Cs_isNoTask_3 : decode b_Cs_isNoTask 3 = .ok (.getfield 10, 3) := by decide +kernel
theorem d_Cs_isNoTask_6 : decode b_Cs_isNoTask 6 = .ok (.invokevirtual 35, 3) := by decide +kernel
theorem d_Cs_isNoTask_9 : decode b_Cs_isNoTask 9 = .ok (.iconst 1, 1) := by decide +kernel
theorem d_Cs_isNoTask_10 : decode b_Cs_isNoTask 10 = .ok (.isub, 1) := by decide +kernel
theorem d_Cs_isNoTask_11 : decode b_Cs_isNoTask 11 = .ok (.invokestatic 31, 3) := by decide +kernel
theorem d_Cs_isNoTask_14 : decode b_Cs_isNoTask 14 = .ok (.ireturn, 1) := by decide +kernel
theorem d_Ta_hasSectionWithin_0 : decode b_Ta_hasSectionWithin 0 = .ok (.iconst 0, 1) := by decide +kernel
theorem d_Ta_hasSectionWithin_1 : decode b_Ta_hasSectionWithin 1 = .ok (.istore_n 3, 1) := by decide +kernel
theorem d_Ta_hasSectionWithin_2 : decode b_Ta_hasSectionWithin 2 = .ok (.iload_n 3, 1) := by decide +kernel
theorem d_Ta_hasSectionWithin_3 : decode b_Ta_hasSectionWithin 3 = .ok (.aload_n 0, 1) := by decide +kernel
theorem d_Ta_hasSectionWithin_4 : decode b_Ta_hasSectionWithin 4 = .ok (.getfield 12, 3) := by decide +kernel
theorem d_Ta_hasSectionWithin_7 : decode b_Ta_hasSectionWithin 7 = .ok (.invokevirtual 56, 3) := by decide +kernel
theorem d_Ta_hasSectionWithin_10 : decode b_Ta_hasSectionWithin 10 = .ok (.if_icmp .ge 48, 3) := by decide +kernel
theorem d_Ta_hasSectionWithin_13 : decode b_Ta_hasSectionWithin 13 = .ok (.aload_n 0, 1) := by decide +kernel
theorem d_Ta_hasSectionWithin_14 : decode b_Ta_hasSectionWithin 14 = .ok (.getfield 12, 3) := by decide +kernel
theorem d_Ta_hasSectionWithin_17 : decode b_Ta_hasSectionWithin 17 = .ok (.iload_n 3, 1) := by decide +kernel
theorem d_Ta_hasSectionWithin_18 : decode b_Ta_hasSectionWithin 18 = .ok (.invokevirtual 60, 3) := by decide +kernel
theorem d_Ta_hasSectionWithin_21 : decode b_Ta_hasSectionWithin 21 = .ok (.checkcast 64, 3) := by decide +kernel
theorem d_Ta_hasSectionWithin_24 : decode b_Ta_hasSectionWithin 24 = .ok (.astore 4, 2) := by decide +kernel
theorem d_Ta_hasSectionWithin_26 : decode b_Ta_hasSectionWithin 26 = .ok (.iload_n 1, 1) := by decide +kernel
theorem d_Ta_hasSectionWithin_27 : decode b_Ta_hasSectionWithin 27 = .ok (.aload 4, 2) := by decide +kernel
theorem d_Ta_hasSectionWithin_29 : decode b_Ta_hasSectionWithin 29 = .ok (.getfield 66, 3) := by decide +kernel
theorem d_Ta_hasSectionWithin_32 : decode b_Ta_hasSectionWithin 32 = .ok (.aload 4, 2) := by decide +kernel
theorem d_Ta_hasSectionWithin_34 : decode b_Ta_hasSectionWithin 34 = .ok (.getfield 69, 3) := by decide +kernel
theorem d_Ta_hasSectionWithin_37 : decode b_Ta_hasSectionWithin 37 = .ok (.iadd, 1) := by decide +kernel
theorem d_Ta_hasSectionWithin_38 : decode b_Ta_hasSectionWithin 38 = .ok (.if_icmp .ge 14, 3) := by decide +kernel
theorem d_Ta_hasSectionWithin_41 : decode b_Ta_hasSectionWithin 41 = .ok (.aload 4, 2) := by decide +kernel
theorem d_Ta_hasSectionWithin_43 : decode b_Ta_hasSectionWithin 43 = .ok (.getfield 66, 3) := by decide +kernel
theorem d_Ta_hasSectionWithin_46 : decode b_Ta_hasSectionWithin 46 = .ok (.iload_n 2, 1) := by decide +kernel
theorem d_Ta_hasSectionWithin_47 : decode b_Ta_hasSectionWithin 47 = .ok (.if_icmp .ge 5, 3) := by decide +kernel
theorem d_Ta_hasSectionWithin_50 : decode b_Ta_hasSectionWithin 50 = .ok (.iconst 1, 1) := by decide +kernel
theorem d_Ta_hasSectionWithin_51 : decode b_Ta_hasSectionWithin 51 = .ok (.ireturn, 1) := by decide +kernel
theorem d_Ta_hasSectionWithin_52 : decode b_Ta_hasSectionWithin 52 = .ok (.iinc 3 1, 3) := by decide +kernel
theorem d_Ta_hasSectionWithin_55 : decode b_Ta_hasSectionWithin 55 = .ok (.goto (-53), 3) := by decide +kernel
theorem d_Ta_hasSectionWithin_58 : decode b_Ta_hasSectionWithin 58 = .ok (.iconst 0, 1) := by decide +kernel
theorem d_Ta_hasSectionWithin_59 : decode b_Ta_hasSectionWithin 59 = .ok (.ireturn, 1) := by decide +kernel
theorem d_Se_init_0 : decode b_Se_init 0 = .ok (.aload_n 0, 1) := by decide +kernel
theorem d_Se_init_1 : decode b_Se_init 1 = .ok (.invokespecial 1, 3) := by decide +kernel
theorem d_Se_init_4 : decode b_Se_init 4 = .ok (.aload_n 0, 1) := by decide +kernel
theorem d_Se_init_5 : decode b_Se_init 5 = .ok (.iload_n 1, 1) := by decide +kernel
theorem d_Se_init_6 : decode b_Se_init 6 = .ok (.putfield 7, 3) := by decide +kernel
theorem d_Se_init_9 : decode b_Se_init 9 = .ok (.aload_n 0, 1) := by decide +kernel
theorem d_Se_init_10 : decode b_Se_init 10 = .ok (.iload_n 2, 1) := by decide +kernel
theorem d_Se_init_11 : decode b_Se_init 11 = .ok (.putfield 13, 3) := by decide +kernel
theorem d_Se_init_14 : decode b_Se_init 14 = .ok (.aload_n 0, 1) := by decide +kernel
theorem d_Se_init_15 : decode b_Se_init 15 = .ok (.iload_n 3, 1) := by decide +kernel
theorem d_Se_init_16 : decode b_Se_init 16 = .ok (.putfield 16, 3) := by decide +kernel
theorem d_Se_init_19 : decode b_Se_init 19 = .ok (.return_, 1) := by decide +kernel
theorem d_Cs_start_0 : decode b_Cs_start 0 = .ok (.aload_n 0, 1) := by decide +kernel
theorem d_Cs_start_1 : decode b_Cs_start 1 = .ok (.getfield 27, 3) := by decide +kernel
theorem d_Cs_start_4 : decode b_Cs_start 4 = .ok (.ifCond .ne 13, 3) := by decide +kernel
theorem d_Cs_start_7 : decode b_Cs_start 7 = .ok (.aload_n 0, 1) := by decide +kernel
theorem d_Cs_start_8 : decode b_Cs_start 8 = .ok (.getfield 10, 3) := by decide +kernel
theorem d_Cs_start_11 : decode b_Cs_start 11 = .ok (.invokevirtual 82, 3) := by decide +kernel
theorem d_Cs_start_14 : decode b_Cs_start 14 = .ok (.ifCond .eq 5, 3) := by decide +kernel
theorem d_Cs_start_17 : decode b_Cs_start 17 = .ok (.iconst (-1), 1) := by decide +kernel
theorem d_Cs_start_18 : decode b_Cs_start 18 = .ok (.ireturn, 1) := by decide +kernel
theorem d_Cs_start_19 : decode b_Cs_start 19 = .ok (.aload_n 0, 1) := by decide +kernel
theorem d_Cs_start_20 : decode b_Cs_start 20 = .ok (.iconst 1, 1) := by decide +kernel
theorem d_Cs_start_21 : decode b_Cs_start 21 = .ok (.putfield 27, 3) := by decide +kernel
theorem d_Cs_start_24 : decode b_Cs_start 24 = .ok (.iconst 0, 1) := by decide +kernel
theorem d_Cs_start_25 : decode b_Cs_start 25 = .ok (.ireturn, 1) := by decide +kernel
theorem d_AL_isEmpty_0 : decode b_AL_isEmpty 0 = .ok (.aload_n 0, 1) := by decide +kernel
theorem d_AL_isEmpty_1 : decode b_AL_isEmpty 1 = .ok (.getfield 48, 3) := by decide +kernel
theorem d_AL_isEmpty_4 : decode b_AL_isEmpty 4 = .ok (.ifCond .ne 7, 3) := by decide +kernel
theorem d_AL_isEmpty_7 : decode b_AL_isEmpty 7 = .ok (.iconst 1, 1) := by decide +kernel
theorem d_AL_isEmpty_8 : decode b_AL_isEmpty 8 = .ok (.goto 4, 3) := by decide +kernel
theorem d_AL_isEmpty_11 : decode b_AL_isEmpty 11 = .ok (.iconst 0, 1) := by decide +kernel
theorem d_AL_isEmpty_12 : decode b_AL_isEmpty 12 = .ok (.ireturn, 1) := by decide +kernel
theorem d_Cs_event_0 : decode b_Cs_event 0 = .ok (.aload_n 0, 1) := by decide +kernel
theorem d_Cs_event_1 : decode b_Cs_event 1 = .ok (.getfield 27, 3) := by decide +kernel
theorem d_Cs_event_4 : decode b_Cs_event 4 = .ok (.ifCond .eq 11, 3) := by decide +kernel
theorem d_Cs_event_7 : decode b_Cs_event 7 = .ok (.aload_n 0, 1) := by decide +kernel
theorem d_Cs_event_8 : decode b_Cs_event 8 = .ok (.iload_n 1, 1) := by decide +kernel
theorem d_Cs_event_9 : decode b_Cs_event 9 = .ok (.invokevirtual 56, 3) := by decide +kernel
theorem d_Cs_event_12 : decode b_Cs_event 12 = .ok (.ifCond .eq 5, 3) := by decide +kernel
theorem d_Cs_event_15 : decode b_Cs_event 15 = .ok (.iconst (-1), 1) := by decide +kernel
theorem d_Cs_event_16 : decode b_Cs_event 16 = .ok (.ireturn, 1) := by decide +kernel
theorem d_Cs_event_17 : decode b_Cs_event 17 = .ok (.aload_n 0, 1) := by decide +kernel
theorem d_Cs_event_18 : decode b_Cs_event 18 = .ok (.getfield 10, 3) := by decide +kernel
theorem d_Cs_event_21 : decode b_Cs_event 21 = .ok (.iload_n 1, 1) := by decide +kernel
theorem d_Cs_event_22 : decode b_Cs_event 22 = .ok (.invokevirtual 59, 3) := by decide +kernel
theorem d_Cs_event_25 : decode b_Cs_event 25 = .ok (.checkcast 39, 3) := by decide +kernel
theorem d_Cs_event_28 : decode b_Cs_event 28 = .ok (.astore_n 2, 1) := by decide +kernel
theorem d_Cs_event_29 : decode b_Cs_event 29 = .ok (.aload_n 2, 1) := by decide +kernel
theorem d_Cs_event_30 : decode b_Cs_event 30 = .ok (.getfield 86, 3) := by decide +kernel
theorem d_Cs_event_33 : decode b_Cs_event 33 = .ok (.ifCond .eq 24, 3) := by decide +kernel
theorem d_Cs_event_36 : decode b_Cs_event 36 = .ok (.aload_n 2, 1) := by decide +kernel
theorem d_Cs_event_37 : decode b_Cs_event 37 = .ok (.getfield 89, 3) := by decide +kernel
theorem d_Cs_event_40 : decode b_Cs_event 40 = .ok (.aload_n 2, 1) := by decide +kernel
theorem d_Cs_event_41 : decode b_Cs_event 41 = .ok (.getfield 93, 3) := by decide +kernel
theorem d_Cs_event_44 : decode b_Cs_event 44 = .ok (.aload_n 0, 1) := by decide +kernel
theorem d_Cs_event_45 : decode b_Cs_event 45 = .ok (.getfield 23, 3) := by decide +kernel
theorem d_Cs_event_48 : decode b_Cs_event 48 = .ok (.getfield 96, 3) := by decide +kernel
theorem d_Cs_event_51 : decode b_Cs_event 51 = .ok (.invokevirtual 99, 3) := by decide +kernel
theorem d_Cs_event_54 : decode b_Cs_event 54 = .ok (.ifCond .eq 5, 3) := by decide +kernel
theorem d_Cs_event_57 : decode b_Cs_event 57 = .ok (.iconst (-1), 1) := by decide +kernel
theorem d_Cs_event_58 : decode b_Cs_event 58 = .ok (.ireturn, 1) := by decide +kernel
theorem d_Cs_event_59 : decode b_Cs_event 59 = .ok (.aload_n 2, 1) := by decide +kernel
theorem d_Cs_event_60 : decode b_Cs_event 60 = .ok (.getfield 89, 3) := by decide +kernel
theorem d_Cs_event_63 : decode b_Cs_event 63 = .ok (.invokevirtual 104, 3) := by decide +kernel
theorem d_Cs_event_66 : decode b_Cs_event 66 = .ok (.ifCond .eq 6, 3) := by decide +kernel
theorem d_Cs_event_69 : decode b_Cs_event 69 = .ok (.bipush (-2), 2) := by decide +kernel
theorem d_Cs_event_71 : decode b_Cs_event 71 = .ok (.ireturn, 1) := by decide +kernel
theorem d_Cs_event_72 : decode b_Cs_event 72 = .ok (.aload_n 2, 1) := by decide +kernel
theorem d_Cs_event_73 : decode b_Cs_event 73 = .ok (.getfield 89, 3) := by decide +kernel
theorem d_Cs_event_76 : decode b_Cs_event 76 = .ok (.aload_n 0, 1) := by decide +kernel
theorem d_Cs_event_77 : decode b_Cs_event 77 = .ok (.getfield 23, 3) := by decide +kernel
theorem d_Cs_event_80 : decode b_Cs_event 80 = .ok (.getfield 96, 3) := by decide +kernel
theorem d_Cs_event_83 : decode b_Cs_event 83 = .ok (.invokevirtual 107, 3) := by decide +kernel
theorem d_Cs_event_86 : decode b_Cs_event 86 = .ok (.iconst 0, 1) := by decide +kernel
theorem d_Cs_event_87 : decode b_Cs_event 87 = .ok (.ireturn, 1) := by decide +kernel
theorem d_Jq_hasReleaseWithin_0 : decode b_Jq_hasReleaseWithin 0 = .ok (.aload_n 0, 1) := by decide +kernel
theorem d_Jq_hasReleaseWithin_1 : decode b_Jq_hasReleaseWithin 1 = .ok (.getfield 19, 3) := by decide +kernel
theorem d_Jq_hasReleaseWithin_4 : decode b_Jq_hasReleaseWithin 4 = .ok (.ifCond .le 17, 3) := by decide +kernel
theorem d_Jq_hasReleaseWithin_7 : decode b_Jq_hasReleaseWithin 7 = .ok (.iload_n 2, 1) := by decide +kernel
theorem d_Jq_hasReleaseWithin_8 : decode b_Jq_hasReleaseWithin 8 = .ok (.aload_n 0, 1) := by decide +kernel
theorem d_Jq_hasReleaseWithin_9 : decode b_Jq_hasReleaseWithin 9 = .ok (.getfield 22, 3) := by decide +kernel
theorem d_Jq_hasReleaseWithin_12 : decode b_Jq_hasReleaseWithin 12 = .ok (.isub, 1) := by decide +kernel
theorem d_Jq_hasReleaseWithin_13 : decode b_Jq_hasReleaseWithin 13 = .ok (.iload_n 1, 1) := by decide +kernel
theorem d_Jq_hasReleaseWithin_14 : decode b_Jq_hasReleaseWithin 14 = .ok (.if_icmp .ge 7, 3) := by decide +kernel
theorem d_Jq_hasReleaseWithin_17 : decode b_Jq_hasReleaseWithin 17 = .ok (.iconst 1, 1) := by decide +kernel
theorem d_Jq_hasReleaseWithin_18 : decode b_Jq_hasReleaseWithin 18 = .ok (.goto 4, 3) := by decide +kernel
theorem d_Jq_hasReleaseWithin_21 : decode b_Jq_hasReleaseWithin 21 = .ok (.iconst 0, 1) := by decide +kernel
theorem d_Jq_hasReleaseWithin_22 : decode b_Jq_hasReleaseWithin 22 = .ok (.ireturn, 1) := by decide +kernel
theorem d_Jq_isFull_0 : decode b_Jq_isFull 0 = .ok (.aload_n 0, 1) := by decide +kernel
theorem d_Jq_isFull_1 : decode b_Jq_isFull 1 = .ok (.getfield 15, 3) := by decide +kernel
theorem d_Jq_isFull_4 : decode b_Jq_isFull 4 = .ok (.bipush 8, 2) := by decide +kernel
theorem d_Jq_isFull_6 : decode b_Jq_isFull 6 = .ok (.if_icmp .lt 7, 3) := by decide +kernel
theorem d_Jq_isFull_9 : decode b_Jq_isFull 9 = .ok (.iconst 1, 1) := by decide +kernel
theorem d_Jq_isFull_10 : decode b_Jq_isFull 10 = .ok (.goto 4, 3) := by decide +kernel
theorem d_Jq_isFull_13 : decode b_Jq_isFull 13 = .ok (.iconst 0, 1) := by decide +kernel
theorem d_Jq_isFull_14 : decode b_Jq_isFull 14 = .ok (.ireturn, 1) := by decide +kernel
theorem d_Jq_release_0 : decode b_Jq_release 0 = .ok (.aload_n 0, 1) := by decide +kernel
theorem d_Jq_release_1 : decode b_Jq_release 1 = .ok (.getfield 9, 3) := by decide +kernel
theorem d_Jq_release_4 : decode b_Jq_release 4 = .ok (.aload_n 0, 1) := by decide +kernel
theorem d_Jq_release_5 : decode b_Jq_release 5 = .ok (.getfield 25, 3) := by decide +kernel
theorem d_Jq_release_8 : decode b_Jq_release 8 = .ok (.aload_n 0, 1) := by decide +kernel
theorem d_Jq_release_9 : decode b_Jq_release 9 = .ok (.getfield 15, 3) := by decide +kernel
theorem d_Jq_release_12 : decode b_Jq_release 12 = .ok (.iadd, 1) := by decide +kernel
theorem d_Jq_release_13 : decode b_Jq_release 13 = .ok (.bipush 8, 2) := by decide +kernel
theorem d_Jq_release_15 : decode b_Jq_release 15 = .ok (.irem, 1) := by decide +kernel
theorem d_Jq_release_16 : decode b_Jq_release 16 = .ok (.iload_n 1, 1) := by decide +kernel
theorem d_Jq_release_17 : decode b_Jq_release 17 = .ok (.iastore, 1) := by decide +kernel
theorem d_Jq_release_18 : decode b_Jq_release 18 = .ok (.aload_n 0, 1) := by decide +kernel
theorem d_Jq_release_19 : decode b_Jq_release 19 = .ok (.dup, 1) := by decide +kernel
theorem d_Jq_release_20 : decode b_Jq_release 20 = .ok (.getfield 15, 3) := by decide +kernel
theorem d_Jq_release_23 : decode b_Jq_release 23 = .ok (.iconst 1, 1) := by decide +kernel
theorem d_Jq_release_24 : decode b_Jq_release 24 = .ok (.iadd, 1) := by decide +kernel
theorem d_Jq_release_25 : decode b_Jq_release 25 = .ok (.putfield 15, 3) := by decide +kernel
theorem d_Jq_release_28 : decode b_Jq_release 28 = .ok (.aload_n 0, 1) := by decide +kernel
theorem d_Jq_release_29 : decode b_Jq_release 29 = .ok (.dup, 1) := by decide +kernel
theorem d_Jq_release_30 : decode b_Jq_release 30 = .ok (.getfield 19, 3) := by decide +kernel
theorem d_Jq_release_33 : decode b_Jq_release 33 = .ok (.iconst 1, 1) := by decide +kernel
theorem d_Jq_release_34 : decode b_Jq_release 34 = .ok (.iadd, 1) := by decide +kernel
theorem d_Jq_release_35 : decode b_Jq_release 35 = .ok (.putfield 19, 3) := by decide +kernel
theorem d_Jq_release_38 : decode b_Jq_release 38 = .ok (.aload_n 0, 1) := by decide +kernel
theorem d_Jq_release_39 : decode b_Jq_release 39 = .ok (.iload_n 1, 1) := by decide +kernel
theorem d_Jq_release_40 : decode b_Jq_release 40 = .ok (.putfield 22, 3) := by decide +kernel
theorem d_Jq_release_43 : decode b_Jq_release 43 = .ok (.return_, 1) := by decide +kernel
theorem d_Cs_tick_0 : decode b_Cs_tick 0 = .ok (.aload_n 0, 1) := by decide +kernel
theorem d_Cs_tick_1 : decode b_Cs_tick 1 = .ok (.getfield 27, 3) := by decide +kernel
theorem d_Cs_tick_4 : decode b_Cs_tick 4 = .ok (.ifCond .eq 14, 3) := by decide +kernel
theorem d_Cs_tick_7 : decode b_Cs_tick 7 = .ok (.iload_n 1, 1) := by decide +kernel
theorem d_Cs_tick_8 : decode b_Cs_tick 8 = .ok (.iconst 1, 1) := by decide +kernel
theorem d_Cs_tick_9 : decode b_Cs_tick 9 = .ok (.sipush 200, 3) := by decide +kernel
theorem d_Cs_tick_12 : decode b_Cs_tick 12 = .ok (.invokestatic 31, 3) := by decide +kernel
theorem d_Cs_tick_15 : decode b_Cs_tick 15 = .ok (.ifCond .eq 5, 3) := by decide +kernel
theorem d_Cs_tick_18 : decode b_Cs_tick 18 = .ok (.iconst (-1), 1) := by decide +kernel
theorem d_Cs_tick_19 : decode b_Cs_tick 19 = .ok (.ireturn, 1) := by decide +kernel
theorem d_Cs_tick_20 : decode b_Cs_tick 20 = .ok (.iconst 0, 1) := by decide +kernel
theorem d_Cs_tick_21 : decode b_Cs_tick 21 = .ok (.istore_n 2, 1) := by decide +kernel
theorem d_Cs_tick_22 : decode b_Cs_tick 22 = .ok (.iload_n 2, 1) := by decide +kernel
theorem d_Cs_tick_23 : decode b_Cs_tick 23 = .ok (.iload_n 1, 1) := by decide +kernel
theorem d_Cs_tick_24 : decode b_Cs_tick 24 = .ok (.if_icmp .ge 20, 3) := by decide +kernel
theorem d_Cs_tick_27 : decode b_Cs_tick 27 = .ok (.aload_n 0, 1) := by decide +kernel
theorem d_Cs_tick_28 : decode b_Cs_tick 28 = .ok (.invokevirtual 111, 3) := by decide +kernel
theorem d_Cs_tick_31 : decode b_Cs_tick 31 = .ok (.ifCond .ne 13, 3) := by decide +kernel
theorem d_Cs_tick_34 : decode b_Cs_tick 34 = .ok (.aload_n 0, 1) := by decide +kernel
theorem d_Cs_tick_35 : decode b_Cs_tick 35 = .ok (.invokevirtual 114, 3) := by decide +kernel
theorem d_Cs_tick_38 : decode b_Cs_tick 38 = .ok (.iinc 2 1, 3) := by decide +kernel
theorem d_Cs_tick_41 : decode b_Cs_tick 41 = .ok (.goto (-19), 3) := by decide +kernel
theorem d_Cs_tick_44 : decode b_Cs_tick 44 = .ok (.iload_n 2, 1) := by decide +kernel
theorem d_Cs_tick_45 : decode b_Cs_tick 45 = .ok (.ifCond .ne 8, 3) := by decide +kernel
theorem d_Cs_tick_48 : decode b_Cs_tick 48 = .ok (.bipush (-2), 2) := by decide +kernel
theorem d_Cs_tick_50 : decode b_Cs_tick 50 = .ok (.goto 4, 3) := by decide +kernel
theorem d_Cs_tick_53 : decode b_Cs_tick 53 = .ok (.iload_n 2, 1) := by decide +kernel
theorem d_Cs_tick_54 : decode b_Cs_tick 54 = .ok (.ireturn, 1) := by decide +kernel
theorem d_Cs_isStopped_0 : decode b_Cs_isStopped 0 = .ok (.iconst 0, 1) := by decide +kernel
theorem d_Cs_isStopped_1 : decode b_Cs_isStopped 1 = .ok (.istore_n 1, 1) := by decide +kernel
theorem d_Cs_isStopped_2 : decode b_Cs_isStopped 2 = .ok (.iload_n 1, 1) := by decide +kernel
theorem d_Cs_isStopped_3 : decode b_Cs_isStopped 3 = .ok (.aload_n 0, 1) := by decide +kernel
theorem d_Cs_isStopped_4 : decode b_Cs_isStopped 4 = .ok (.getfield 10, 3) := by decide +kernel
theorem d_Cs_isStopped_7 : decode b_Cs_isStopped 7 = .ok (.invokevirtual 35, 3) := by decide +kernel
theorem d_Cs_isStopped_10 : decode b_Cs_isStopped 10 = .ok (.if_icmp .ge 47, 3) := by decide +kernel
theorem d_Cs_isStopped_13 : decode b_Cs_isStopped 13 = .ok (.aload_n 0, 1) := by decide +kernel
theorem d_Cs_isStopped_14 : decode b_Cs_isStopped 14 = .ok (.getfield 10, 3) := by decide +kernel
theorem d_Cs_isStopped_17 : decode b_Cs_isStopped 17 = .ok (.iload_n 1, 1) := by decide +kernel
theorem d_Cs_isStopped_18 : decode b_Cs_isStopped 18 = .ok (.invokevirtual 59, 3) := by decide +kernel
theorem d_Cs_isStopped_21 : decode b_Cs_isStopped 21 = .ok (.checkcast 39, 3) := by decide +kernel
theorem d_Cs_isStopped_24 : decode b_Cs_isStopped 24 = .ok (.astore_n 2, 1) := by decide +kernel
theorem d_Cs_isStopped_25 : decode b_Cs_isStopped 25 = .ok (.aload_n 2, 1) := by decide +kernel
theorem d_Cs_isStopped_26 : decode b_Cs_isStopped 26 = .ok (.aload_n 0, 1) := by decide +kernel
theorem d_Cs_isStopped_27 : decode b_Cs_isStopped 27 = .ok (.getfield 23, 3) := by decide +kernel
theorem d_Cs_isStopped_30 : decode b_Cs_isStopped 30 = .ok (.getfield 96, 3) := by decide +kernel
theorem d_Cs_isStopped_33 : decode b_Cs_isStopped 33 = .ok (.invokevirtual 195, 3) := by decide +kernel
theorem d_Cs_isStopped_36 : decode b_Cs_isStopped 36 = .ok (.ifCond .eq 15, 3) := by decide +kernel
theorem d_Cs_isStopped_39 : decode b_Cs_isStopped 39 = .ok (.aload_n 2, 1) := by decide +kernel
theorem d_Cs_isStopped_40 : decode b_Cs_isStopped 40 = .ok (.getfield 89, 3) := by decide +kernel
theorem d_Cs_isStopped_43 : decode b_Cs_isStopped 43 = .ok (.invokevirtual 104, 3) := by decide +kernel
theorem d_Cs_isStopped_46 : decode b_Cs_isStopped 46 = .ok (.ifCond .eq 5, 3) := by decide +kernel
theorem d_Cs_isStopped_49 : decode b_Cs_isStopped 49 = .ok (.iconst 1, 1) := by decide +kernel
theorem d_Cs_isStopped_50 : decode b_Cs_isStopped 50 = .ok (.ireturn, 1) := by decide +kernel
theorem d_Cs_isStopped_51 : decode b_Cs_isStopped 51 = .ok (.iinc 1 1, 3) := by decide +kernel
theorem d_Cs_isStopped_54 : decode b_Cs_isStopped 54 = .ok (.goto (-52), 3) := by decide +kernel
theorem d_Cs_isStopped_57 : decode b_Cs_isStopped 57 = .ok (.iconst 0, 1) := by decide +kernel
theorem d_Cs_isStopped_58 : decode b_Cs_isStopped 58 = .ok (.ireturn, 1) := by decide +kernel
theorem d_Ta_isDueAt_0 : decode b_Ta_isDueAt 0 = .ok (.aload_n 0, 1) := by decide +kernel
theorem d_Ta_isDueAt_1 : decode b_Ta_isDueAt 1 = .ok (.getfield 38, 3) := by decide +kernel
theorem d_Ta_isDueAt_4 : decode b_Ta_isDueAt 4 = .ok (.ifCond .ne 15, 3) := by decide +kernel
theorem d_Ta_isDueAt_7 : decode b_Ta_isDueAt 7 = .ok (.aload_n 0, 1) := by decide +kernel
theorem d_Ta_isDueAt_8 : decode b_Ta_isDueAt 8 = .ok (.getfield 42, 3) := by decide +kernel
theorem d_Ta_isDueAt_11 : decode b_Ta_isDueAt 11 = .ok (.iload_n 1, 1) := by decide +kernel
theorem d_Ta_isDueAt_12 : decode b_Ta_isDueAt 12 = .ok (.if_icmp .ne 7, 3) := by decide +kernel
theorem d_Ta_isDueAt_15 : decode b_Ta_isDueAt 15 = .ok (.iconst 1, 1) := by decide +kernel
theorem d_Ta_isDueAt_16 : decode b_Ta_isDueAt 16 = .ok (.goto 4, 3) := by decide +kernel
theorem d_Ta_isDueAt_19 : decode b_Ta_isDueAt 19 = .ok (.iconst 0, 1) := by decide +kernel
theorem d_Ta_isDueAt_20 : decode b_Ta_isDueAt 20 = .ok (.ireturn, 1) := by decide +kernel
theorem d_Cs_passUnit_0 : decode b_Cs_passUnit 0 = .ok (.iconst 0, 1) := by decide +kernel
theorem d_Cs_passUnit_1 : decode b_Cs_passUnit 1 = .ok (.istore_n 1, 1) := by decide +kernel
theorem d_Cs_passUnit_2 : decode b_Cs_passUnit 2 = .ok (.iload_n 1, 1) := by decide +kernel
theorem d_Cs_passUnit_3 : decode b_Cs_passUnit 3 = .ok (.aload_n 0, 1) := by decide +kernel
theorem d_Cs_passUnit_4 : decode b_Cs_passUnit 4 = .ok (.getfield 10, 3) := by decide +kernel
theorem d_Cs_passUnit_7 : decode b_Cs_passUnit 7 = .ok (.invokevirtual 35, 3) := by decide +kernel
theorem d_Cs_passUnit_10 : decode b_Cs_passUnit 10 = .ok (.if_icmp .ge 39, 3) := by decide +kernel
theorem d_Cs_passUnit_13 : decode b_Cs_passUnit 13 = .ok (.aload_n 0, 1) := by decide +kernel
theorem d_Cs_passUnit_14 : decode b_Cs_passUnit 14 = .ok (.getfield 10, 3) := by decide +kernel
theorem d_Cs_passUnit_17 : decode b_Cs_passUnit 17 = .ok (.iload_n 1, 1) := by decide +kernel
theorem d_Cs_passUnit_18 : decode b_Cs_passUnit 18 = .ok (.invokevirtual 59, 3) := by decide +kernel
theorem d_Cs_passUnit_21 : decode b_Cs_passUnit 21 = .ok (.checkcast 39, 3) := by decide +kernel
theorem d_Cs_passUnit_24 : decode b_Cs_passUnit 24 = .ok (.astore_n 2, 1) := by decide +kernel
theorem d_Cs_passUnit_25 : decode b_Cs_passUnit 25 = .ok (.aload_n 2, 1) := by decide +kernel
theorem d_Cs_passUnit_26 : decode b_Cs_passUnit 26 = .ok (.aload_n 0, 1) := by decide +kernel
theorem d_Cs_passUnit_27 : decode b_Cs_passUnit 27 = .ok (.getfield 23, 3) := by decide +kernel
theorem d_Cs_passUnit_30 : decode b_Cs_passUnit 30 = .ok (.getfield 96, 3) := by decide +kernel
theorem d_Cs_passUnit_33 : decode b_Cs_passUnit 33 = .ok (.invokevirtual 195, 3) := by decide +kernel
theorem d_Cs_passUnit_36 : decode b_Cs_passUnit 36 = .ok (.ifCond .eq 7, 3) := by decide +kernel
theorem d_Cs_passUnit_39 : decode b_Cs_passUnit 39 = .ok (.aload_n 2, 1) := by decide +kernel
theorem d_Cs_passUnit_40 : decode b_Cs_passUnit 40 = .ok (.invokevirtual 198, 3) := by decide +kernel
theorem d_Cs_passUnit_43 : decode b_Cs_passUnit 43 = .ok (.iinc 1 1, 3) := by decide +kernel
theorem d_Cs_passUnit_46 : decode b_Cs_passUnit 46 = .ok (.goto (-44), 3) := by decide +kernel
theorem d_Cs_passUnit_49 : decode b_Cs_passUnit 49 = .ok (.aload_n 0, 1) := by decide +kernel
theorem d_Cs_passUnit_50 : decode b_Cs_passUnit 50 = .ok (.invokevirtual 201, 3) := by decide +kernel
theorem d_Cs_passUnit_53 : decode b_Cs_passUnit 53 = .ok (.istore_n 1, 1) := by decide +kernel
theorem d_Cs_passUnit_54 : decode b_Cs_passUnit 54 = .ok (.aload_n 0, 1) := by decide +kernel
theorem d_Cs_passUnit_55 : decode b_Cs_passUnit 55 = .ok (.getfield 23, 3) := by decide +kernel
theorem d_Cs_passUnit_58 : decode b_Cs_passUnit 58 = .ok (.iload_n 1, 1) := by decide +kernel
theorem d_Cs_passUnit_59 : decode b_Cs_passUnit 59 = .ok (.invokevirtual 204, 3) := by decide +kernel
theorem d_Cs_passUnit_62 : decode b_Cs_passUnit 62 = .ok (.iload_n 1, 1) := by decide +kernel
theorem d_Cs_passUnit_63 : decode b_Cs_passUnit 63 = .ok (.bipush (-3), 2) := by decide +kernel
theorem d_Cs_passUnit_65 : decode b_Cs_passUnit 65 = .ok (.if_icmp .eq 24, 3) := by decide +kernel
theorem d_Cs_passUnit_68 : decode b_Cs_passUnit 68 = .ok (.aload_n 0, 1) := by decide +kernel
theorem d_Cs_passUnit_69 : decode b_Cs_passUnit 69 = .ok (.getfield 10, 3) := by decide +kernel
theorem d_Cs_passUnit_72 : decode b_Cs_passUnit 72 = .ok (.iload_n 1, 1) := by decide +kernel
theorem d_Cs_passUnit_73 : decode b_Cs_passUnit 73 = .ok (.invokevirtual 59, 3) := by decide +kernel
theorem d_Cs_passUnit_76 : decode b_Cs_passUnit 76 = .ok (.checkcast 39, 3) := by decide +kernel
theorem d_Cs_passUnit_79 : decode b_Cs_passUnit 79 = .ok (.aload_n 0, 1) := by decide +kernel
theorem d_Cs_passUnit_80 : decode b_Cs_passUnit 80 = .ok (.getfield 23, 3) := by decide +kernel
theorem d_Cs_passUnit_83 : decode b_Cs_passUnit 83 = .ok (.getfield 96, 3) := by decide +kernel
theorem d_Cs_passUnit_86 : decode b_Cs_passUnit 86 = .ok (.invokevirtual 207, 3) := by decide +kernel
theorem d_Cs_passUnit_89 : decode b_Cs_passUnit 89 = .ok (.return_, 1) := by decide +kernel
theorem d_Ta_releasePeriodicJob_0 : decode b_Ta_releasePeriodicJob 0 = .ok (.aload_n 0, 1) := by decide +kernel
theorem d_Ta_releasePeriodicJob_1 : decode b_Ta_releasePeriodicJob 1 = .ok (.getfield 21, 3) := by decide +kernel
theorem d_Ta_releasePeriodicJob_4 : decode b_Ta_releasePeriodicJob 4 = .ok (.aload_n 0, 1) := by decide +kernel
theorem d_Ta_releasePeriodicJob_5 : decode b_Ta_releasePeriodicJob 5 = .ok (.getfield 42, 3) := by decide +kernel
theorem d_Ta_releasePeriodicJob_8 : decode b_Ta_releasePeriodicJob 8 = .ok (.invokevirtual 45, 3) := by decide +kernel
theorem d_Ta_releasePeriodicJob_11 : decode b_Ta_releasePeriodicJob 11 = .ok (.aload_n 0, 1) := by decide +kernel
theorem d_Ta_releasePeriodicJob_12 : decode b_Ta_releasePeriodicJob 12 = .ok (.dup, 1) := by decide +kernel
theorem d_Ta_releasePeriodicJob_13 : decode b_Ta_releasePeriodicJob 13 = .ok (.getfield 42, 3) := by decide +kernel
theorem d_Ta_releasePeriodicJob_16 : decode b_Ta_releasePeriodicJob 16 = .ok (.aload_n 0, 1) := by decide +kernel
theorem d_Ta_releasePeriodicJob_17 : decode b_Ta_releasePeriodicJob 17 = .ok (.getfield 25, 3) := by decide +kernel
theorem d_Ta_releasePeriodicJob_20 : decode b_Ta_releasePeriodicJob 20 = .ok (.iadd, 1) := by decide +kernel
theorem d_Ta_releasePeriodicJob_21 : decode b_Ta_releasePeriodicJob 21 = .ok (.putfield 42, 3) := by decide +kernel
theorem d_Ta_releasePeriodicJob_24 : decode b_Ta_releasePeriodicJob 24 = .ok (.return_, 1) := by decide +kernel
theorem d_Cs_chooseTask_0 : decode b_Cs_chooseTask 0 = .ok (.bipush (-3), 2) := by decide +kernel
theorem d_Cs_chooseTask_2 : decode b_Cs_chooseTask 2 = .ok (.istore_n 1, 1) := by decide +kernel
theorem d_Cs_chooseTask_3 : decode b_Cs_chooseTask 3 = .ok (.iconst 0, 1) := by decide +kernel
theorem d_Cs_chooseTask_4 : decode b_Cs_chooseTask 4 = .ok (.istore_n 2, 1) := by decide +kernel
theorem d_Cs_chooseTask_5 : decode b_Cs_chooseTask 5 = .ok (.iload_n 2, 1) := by decide +kernel
theorem d_Cs_chooseTask_6 : decode b_Cs_chooseTask 6 = .ok (.aload_n 0, 1) := by decide +kernel
theorem d_Cs_chooseTask_7 : decode b_Cs_chooseTask 7 = .ok (.getfield 10, 3) := by decide +kernel
theorem d_Cs_chooseTask_10 : decode b_Cs_chooseTask 10 = .ok (.invokevirtual 35, 3) := by decide +kernel
theorem d_Cs_chooseTask_13 : decode b_Cs_chooseTask 13 = .ok (.if_icmp .ge 46, 3) := by decide +kernel
theorem d_Cs_chooseTask_16 : decode b_Cs_chooseTask 16 = .ok (.aload_n 0, 1) := by decide +kernel
theorem d_Cs_chooseTask_17 : decode b_Cs_chooseTask 17 = .ok (.getfield 10, 3) := by decide +kernel
theorem d_Cs_chooseTask_20 : decode b_Cs_chooseTask 20 = .ok (.iload_n 2, 1) := by decide +kernel
theorem d_Cs_chooseTask_21 : decode b_Cs_chooseTask 21 = .ok (.invokevirtual 59, 3) := by decide +kernel
theorem d_Cs_chooseTask_24 : decode b_Cs_chooseTask 24 = .ok (.checkcast 39, 3) := by decide +kernel
theorem d_Cs_chooseTask_27 : decode b_Cs_chooseTask 27 = .ok (.getfield 89, 3) := by decide +kernel
theorem d_Cs_chooseTask_30 : decode b_Cs_chooseTask 30 = .ok (.invokevirtual 136, 3) := by decide +kernel
theorem d_Cs_chooseTask_33 : decode b_Cs_chooseTask 33 = .ok (.ifCond .ne 20, 3) := by decide +kernel
theorem d_Cs_chooseTask_36 : decode b_Cs_chooseTask 36 = .ok (.iload_n 1, 1) := by decide +kernel
theorem d_Cs_chooseTask_37 : decode b_Cs_chooseTask 37 = .ok (.bipush (-3), 2) := by decide +kernel
theorem d_Cs_chooseTask_39 : decode b_Cs_chooseTask 39 = .ok (.if_icmp .eq 12, 3) := by decide +kernel
theorem d_Cs_chooseTask_42 : decode b_Cs_chooseTask 42 = .ok (.aload_n 0, 1) := by decide +kernel
theorem d_Cs_chooseTask_43 : decode b_Cs_chooseTask 43 = .ok (.iload_n 2, 1) := by decide +kernel
theorem d_Cs_chooseTask_44 : decode b_Cs_chooseTask 44 = .ok (.iload_n 1, 1) := by decide +kernel
theorem d_Cs_chooseTask_45 : decode b_Cs_chooseTask 45 = .ok (.invokevirtual 210, 3) := by decide +kernel
theorem d_Cs_chooseTask_48 : decode b_Cs_chooseTask 48 = .ok (.ifCond .eq 5, 3) := by decide +kernel
theorem d_Cs_chooseTask_51 : decode b_Cs_chooseTask 51 = .ok (.iload_n 2, 1) := by decide +kernel
theorem d_Cs_chooseTask_52 : decode b_Cs_chooseTask 52 = .ok (.istore_n 1, 1) := by decide +kernel
theorem d_Cs_chooseTask_53 : decode b_Cs_chooseTask 53 = .ok (.iinc 2 1, 3) := by decide +kernel
theorem d_Cs_chooseTask_56 : decode b_Cs_chooseTask 56 = .ok (.goto (-51), 3) := by decide +kernel
theorem d_Cs_chooseTask_59 : decode b_Cs_chooseTask 59 = .ok (.iload_n 1, 1) := by decide +kernel
theorem d_Cs_chooseTask_60 : decode b_Cs_chooseTask 60 = .ok (.ireturn, 1) := by decide +kernel
theorem d_Jq_isEmpty_0 : decode b_Jq_isEmpty 0 = .ok (.aload_n 0, 1) := by decide +kernel
theorem d_Jq_isEmpty_1 : decode b_Jq_isEmpty 1 = .ok (.getfield 15, 3) := by decide +kernel
theorem d_Jq_isEmpty_4 : decode b_Jq_isEmpty 4 = .ok (.ifCond .ne 7, 3) := by decide +kernel
theorem d_Jq_isEmpty_7 : decode b_Jq_isEmpty 7 = .ok (.iconst 1, 1) := by decide +kernel
theorem d_Jq_isEmpty_8 : decode b_Jq_isEmpty 8 = .ok (.goto 4, 3) := by decide +kernel
theorem d_Jq_isEmpty_11 : decode b_Jq_isEmpty 11 = .ok (.iconst 0, 1) := by decide +kernel
theorem d_Jq_isEmpty_12 : decode b_Jq_isEmpty 12 = .ok (.ireturn, 1) := by decide +kernel
theorem d_Cs_goesBefore_0 : decode b_Cs_goesBefore 0 = .ok (.aload_n 0, 1) := by decide +kernel
theorem d_Cs_goesBefore_1 : decode b_Cs_goesBefore 1 = .ok (.getfield 10, 3) := by decide +kernel
theorem d_Cs_goesBefore_4 : decode b_Cs_goesBefore 4 = .ok (.iload_n 1, 1) := by decide +kernel
theorem d_Cs_goesBefore_5 : decode b_Cs_goesBefore 5 = .ok (.invokevirtual 59, 3) := by decide +kernel
theorem d_Cs_goesBefore_8 : decode b_Cs_goesBefore 8 = .ok (.checkcast 39, 3) := by decide +kernel
theorem d_Cs_goesBefore_11 : decode b_Cs_goesBefore 11 = .ok (.astore_n 3, 1) := by decide +kernel
theorem d_Cs_goesBefore_12 : decode b_Cs_goesBefore 12 = .ok (.aload_n 0, 1) := by decide +kernel
theorem d_Cs_goesBefore_13 : decode b_Cs_goesBefore 13 = .ok (.getfield 10, 3) := by decide +kernel
theorem d_Cs_goesBefore_16 : decode b_Cs_goesBefore 16 = .ok (.iload_n 2, 1) := by decide +kernel
theorem d_Cs_goesBefore_17 : decode b_Cs_goesBefore 17 = .ok (.invokevirtual 59, 3) := by decide +kernel
theorem d_Cs_goesBefore_20 : decode b_Cs_goesBefore 20 = .ok (.checkcast 39, 3) := by decide +kernel
theorem d_Cs_goesBefore_23 : decode b_Cs_goesBefore 23 = .ok (.astore 4, 2) := by decide +kernel
theorem d_Cs_goesBefore_25 : decode b_Cs_goesBefore 25 = .ok (.aload_n 0, 1) := by decide +kernel
theorem d_Cs_goesBefore_26 : decode b_Cs_goesBefore 26 = .ok (.aload_n 3, 1) := by decide +kernel
theorem d_Cs_goesBefore_27 : decode b_Cs_goesBefore 27 = .ok (.invokevirtual 140, 3) := by decide +kernel
theorem d_Cs_goesBefore_30 : decode b_Cs_goesBefore 30 = .ok (.istore 5, 2) := by decide +kernel
theorem d_Cs_goesBefore_32 : decode b_Cs_goesBefore 32 = .ok (.aload_n 0, 1) := by decide +kernel
theorem d_Cs_goesBefore_33 : decode b_Cs_goesBefore 33 = .ok (.aload 4, 2) := by decide +kernel
theorem d_Cs_goesBefore_35 : decode b_Cs_goesBefore 35 = .ok (.invokevirtual 140, 3) := by decide +kernel
theorem d_Cs_goesBefore_38 : decode b_Cs_goesBefore 38 = .ok (.istore 6, 2) := by decide +kernel
theorem d_Cs_goesBefore_40 : decode b_Cs_goesBefore 40 = .ok (.iload 5, 2) := by decide +kernel
theorem d_Cs_goesBefore_42 : decode b_Cs_goesBefore 42 = .ok (.iload 6, 2) := by decide +kernel
theorem d_Cs_goesBefore_44 : decode b_Cs_goesBefore 44 = .ok (.if_icmp .eq 16, 3) := by decide +kernel
theorem d_Cs_goesBefore_47 : decode b_Cs_goesBefore 47 = .ok (.iload 5, 2) := by decide +kernel
theorem d_Cs_goesBefore_49 : decode b_Cs_goesBefore 49 = .ok (.iload 6, 2) := by decide +kernel
theorem d_Cs_goesBefore_51 : decode b_Cs_goesBefore 51 = .ok (.if_icmp .le 7, 3) := by decide +kernel
theorem d_Cs_goesBefore_54 : decode b_Cs_goesBefore 54 = .ok (.iconst 1, 1) := by decide +kernel
theorem d_Cs_goesBefore_55 : decode b_Cs_goesBefore 55 = .ok (.goto 4, 3) := by decide +kernel
theorem d_Cs_goesBefore_58 : decode b_Cs_goesBefore 58 = .ok (.iconst 0, 1) := by decide +kernel
theorem d_Cs_goesBefore_59 : decode b_Cs_goesBefore 59 = .ok (.ireturn, 1) := by decide +kernel
theorem d_Cs_goesBefore_60 : decode b_Cs_goesBefore 60 = .ok (.aload_n 3, 1) := by decide +kernel
theorem d_Cs_goesBefore_61 : decode b_Cs_goesBefore 61 = .ok (.invokevirtual 147, 3) := by decide +kernel
theorem d_Cs_goesBefore_64 : decode b_Cs_goesBefore 64 = .ok (.bipush (-3), 2) := by decide +kernel
theorem d_Cs_goesBefore_66 : decode b_Cs_goesBefore 66 = .ok (.if_icmp .eq 7, 3) := by decide +kernel
theorem d_Cs_goesBefore_69 : decode b_Cs_goesBefore 69 = .ok (.iconst 1, 1) := by decide +kernel
theorem d_Cs_goesBefore_70 : decode b_Cs_goesBefore 70 = .ok (.goto 4, 3) := by decide +kernel
theorem d_Cs_goesBefore_73 : decode b_Cs_goesBefore 73 = .ok (.iconst 0, 1) := by decide +kernel
theorem d_Cs_goesBefore_74 : decode b_Cs_goesBefore 74 = .ok (.istore 7, 2) := by decide +kernel
theorem d_Cs_goesBefore_76 : decode b_Cs_goesBefore 76 = .ok (.aload 4, 2) := by decide +kernel
theorem d_Cs_goesBefore_78 : decode b_Cs_goesBefore 78 = .ok (.invokevirtual 147, 3) := by decide +kernel
theorem d_Cs_goesBefore_81 : decode b_Cs_goesBefore 81 = .ok (.bipush (-3), 2) := by decide +kernel
theorem d_Cs_goesBefore_83 : decode b_Cs_goesBefore 83 = .ok (.if_icmp .eq 7, 3) := by decide +kernel
theorem d_Cs_goesBefore_86 : decode b_Cs_goesBefore 86 = .ok (.iconst 1, 1) := by decide +kernel
theorem d_Cs_goesBefore_87 : decode b_Cs_goesBefore 87 = .ok (.goto 4, 3) := by decide +kernel
theorem d_Cs_goesBefore_90 : decode b_Cs_goesBefore 90 = .ok (.iconst 0, 1) := by decide +kernel
theorem d_Cs_goesBefore_91 : decode b_Cs_goesBefore 91 = .ok (.istore 8, 2) := by decide +kernel
theorem d_Cs_goesBefore_93 : decode b_Cs_goesBefore 93 = .ok (.iload 7, 2) := by decide +kernel
theorem d_Cs_goesBefore_95 : decode b_Cs_goesBefore 95 = .ok (.iload 8, 2) := by decide +kernel
theorem d_Cs_goesBefore_97 : decode b_Cs_goesBefore 97 = .ok (.if_icmp .eq 6, 3) := by decide +kernel
theorem d_Cs_goesBefore_100 : decode b_Cs_goesBefore 100 = .ok (.iload 7, 2) := by decide +kernel
theorem d_Cs_goesBefore_102 : decode b_Cs_goesBefore 102 = .ok (.ireturn, 1) := by decide +kernel
theorem d_Cs_goesBefore_103 : decode b_Cs_goesBefore 103 = .ok (.iload_n 1, 1) := by decide +kernel
theorem d_Cs_goesBefore_104 : decode b_Cs_goesBefore 104 = .ok (.aload_n 0, 1) := by decide +kernel
theorem d_Cs_goesBefore_105 : decode b_Cs_goesBefore 105 = .ok (.getfield 23, 3) := by decide +kernel
theorem d_Cs_goesBefore_108 : decode b_Cs_goesBefore 108 = .ok (.getfield 117, 3) := by decide +kernel
theorem d_Cs_goesBefore_111 : decode b_Cs_goesBefore 111 = .ok (.if_icmp .eq 14, 3) := by decide +kernel
theorem d_Cs_goesBefore_114 : decode b_Cs_goesBefore 114 = .ok (.iload_n 2, 1) := by decide +kernel
theorem d_Cs_goesBefore_115 : decode b_Cs_goesBefore 115 = .ok (.aload_n 0, 1) := by decide +kernel
theorem d_Cs_goesBefore_116 : decode b_Cs_goesBefore 116 = .ok (.getfield 23, 3) := by decide +kernel
theorem d_Cs_goesBefore_119 : decode b_Cs_goesBefore 119 = .ok (.getfield 117, 3) := by decide +kernel
theorem d_Cs_goesBefore_122 : decode b_Cs_goesBefore 122 = .ok (.if_icmp .ne 20, 3) := by decide +kernel
theorem d_Cs_goesBefore_125 : decode b_Cs_goesBefore 125 = .ok (.iload_n 1, 1) := by decide +kernel
theorem d_Cs_goesBefore_126 : decode b_Cs_goesBefore 126 = .ok (.aload_n 0, 1) := by decide +kernel
theorem d_Cs_goesBefore_127 : decode b_Cs_goesBefore 127 = .ok (.getfield 23, 3) := by decide +kernel
theorem d_Cs_goesBefore_130 : decode b_Cs_goesBefore 130 = .ok (.getfield 117, 3) := by decide +kernel
theorem d_Cs_goesBefore_133 : decode b_Cs_goesBefore 133 = .ok (.if_icmp .ne 7, 3) := by decide +kernel
theorem d_Cs_goesBefore_136 : decode b_Cs_goesBefore 136 = .ok (.iconst 1, 1) := by decide +kernel
theorem d_Cs_goesBefore_137 : decode b_Cs_goesBefore 137 = .ok (.goto 4, 3) := by decide +kernel
theorem d_Cs_goesBefore_140 : decode b_Cs_goesBefore 140 = .ok (.iconst 0, 1) := by decide +kernel
theorem d_Cs_goesBefore_141 : decode b_Cs_goesBefore 141 = .ok (.ireturn, 1) := by decide +kernel
theorem d_Cs_goesBefore_142 : decode b_Cs_goesBefore 142 = .ok (.aload_n 3, 1) := by decide +kernel
theorem d_Cs_goesBefore_143 : decode b_Cs_goesBefore 143 = .ok (.getfield 89, 3) := by decide +kernel
theorem d_Cs_goesBefore_146 : decode b_Cs_goesBefore 146 = .ok (.invokevirtual 144, 3) := by decide +kernel
theorem d_Cs_goesBefore_149 : decode b_Cs_goesBefore 149 = .ok (.aload 4, 2) := by decide +kernel
theorem d_Cs_goesBefore_151 : decode b_Cs_goesBefore 151 = .ok (.getfield 89, 3) := by decide +kernel
theorem d_Cs_goesBefore_154 : decode b_Cs_goesBefore 154 = .ok (.invokevirtual 144, 3) := by decide +kernel
theorem d_Cs_goesBefore_157 : decode b_Cs_goesBefore 157 = .ok (.if_icmp .ge 7, 3) := by decide +kernel
theorem d_Cs_goesBefore_160 : decode b_Cs_goesBefore 160 = .ok (.iconst 1, 1) := by decide +kernel
theorem d_Cs_goesBefore_161 : decode b_Cs_goesBefore 161 = .ok (.goto 4, 3) := by decide +kernel
theorem d_Cs_goesBefore_164 : decode b_Cs_goesBefore 164 = .ok (.iconst 0, 1) := by decide +kernel
theorem d_Cs_goesBefore_165 : decode b_Cs_goesBefore 165 = .ok (.ireturn, 1) := by decide +kernel
theorem d_Cs_activePriority_0 : decode b_Cs_activePriority 0 = .ok (.aload_n 1, 1) := by decide +kernel
theorem d_Cs_activePriority_1 : decode b_Cs_activePriority 1 = .ok (.invokevirtual 147, 3) := by decide +kernel
theorem d_Cs_activePriority_4 : decode b_Cs_activePriority 4 = .ok (.istore_n 2, 1) := by decide +kernel
theorem d_Cs_activePriority_5 : decode b_Cs_activePriority 5 = .ok (.iload_n 2, 1) := by decide +kernel
theorem d_Cs_activePriority_6 : decode b_Cs_activePriority 6 = .ok (.bipush (-3), 2) := by decide +kernel
theorem d_Cs_activePriority_8 : decode b_Cs_activePriority 8 = .ok (.if_icmp .ne 10, 3) := by decide +kernel
theorem d_Cs_activePriority_11 : decode b_Cs_activePriority 11 = .ok (.aload_n 1, 1) := by decide +kernel
theorem d_Cs_activePriority_12 : decode b_Cs_activePriority 12 = .ok (.getfield 71, 3) := by decide +kernel
theorem d_Cs_activePriority_15 : decode b_Cs_activePriority 15 = .ok (.goto 16, 3) := by decide +kernel
theorem d_Cs_activePriority_18 : decode b_Cs_activePriority 18 = .ok (.aload_n 1, 1) := by decide +kernel
theorem d_Cs_activePriority_19 : decode b_Cs_activePriority 19 = .ok (.getfield 71, 3) := by decide +kernel
theorem d_Cs_activePriority_22 : decode b_Cs_activePriority 22 = .ok (.aload_n 0, 1) := by decide +kernel
theorem d_Cs_activePriority_23 : decode b_Cs_activePriority 23 = .ok (.getfield 16, 3) := by decide +kernel
theorem d_Cs_activePriority_26 : decode b_Cs_activePriority 26 = .ok (.iload_n 2, 1) := by decide +kernel
theorem d_Cs_activePriority_27 : decode b_Cs_activePriority 27 = .ok (.iaload, 1) := by decide +kernel
theorem d_Cs_activePriority_28 : decode b_Cs_activePriority 28 = .ok (.invokestatic 178, 3) := by decide +kernel
theorem d_Cs_activePriority_31 : decode b_Cs_activePriority 31 = .ok (.ireturn, 1) := by decide +kernel
