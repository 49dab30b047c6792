theorem t_0 : Cond.selects "java/util/ArrayList" y_AL_add_Ljaval y_AL_add_Ljaval ∈ tbG := tbG_in (k := 0) (by decide +kernel) rfl
theorem t_1 : Cond.selects "java/util/ArrayList" y_AL_grow y_AL_grow ∈ tbG := tbG_in (k := 1) (by decide +kernel) rfl
theorem t_2 : Cond.selects "java/util/ArrayList" y_AL_grow_ILjava y_AL_grow_ILjava ∈ tbG := tbG_in (k := 2) (by decide +kernel) rfl
theorem t_3 : Cond.selects "CeilingScheduler" y_Cs_greatestPriorityOn y_Cs_greatestPriorityOn ∈ tbG := tbG_in (k := 3) (by decide +kernel) rfl
theorem t_4 : Cond.selects "CeilingScheduler$Task" y_Ta_hasSectionOn y_Ta_hasSectionOn ∈ tbG := tbG_in (k := 4) (by decide +kernel) rfl
theorem t_5 : Cond.selects "CeilingScheduler" y_Cs_isNoTask y_Cs_isNoTask ∈ tbG := tbG_in (k := 5) (by decide +kernel) rfl
theorem t_6 : Cond.selects "CeilingScheduler$Task" y_Ta_hasSectionWithin y_Ta_hasSectionWithin ∈ tbG := tbG_in (k := 6) (by decide +kernel) rfl
theorem t_7 : Cond.selects "CeilingScheduler$JobQueue" y_Jq_hasReleaseWithin y_Jq_hasReleaseWithin ∈ tbG := tbG_in (k := 7) (by decide +kernel) rfl
theorem t_8 : Cond.selects "CeilingScheduler$JobQueue" y_Jq_isFull y_Jq_isFull ∈ tbG := tbG_in (k := 8) (by decide +kernel) rfl
theorem t_9 : Cond.selects "CeilingScheduler$JobQueue" y_Jq_release y_Jq_release ∈ tbG := tbG_in (k := 9) (by decide +kernel) rfl
theorem t_10 : Cond.selects "CeilingScheduler" y_Cs_isStopped y_Cs_isStopped ∈ tbG := tbG_in (k := 10) (by decide +kernel) rfl
theorem t_11 : Cond.selects "CeilingScheduler$Task" y_Ta_isDueAt y_Ta_isDueAt ∈ tbG := tbG_in (k := 11) (by decide +kernel) rfl
theorem t_12 : Cond.selects "CeilingScheduler" y_Cs_passUnit y_Cs_passUnit ∈ tbG := tbG_in (k := 12) (by decide +kernel) rfl
theorem t_13 : Cond.selects "CeilingScheduler$Task" y_Ta_releasePeriodicJob y_Ta_releasePeriodicJob ∈ tbG := tbG_in (k := 13) (by decide +kernel) rfl
theorem t_14 : Cond.selects "CeilingScheduler" y_Cs_chooseTask y_Cs_chooseTask ∈ tbG := tbG_in (k := 14) (by decide +kernel) rfl
theorem t_15 : Cond.selects "CeilingScheduler$JobQueue" y_Jq_isEmpty y_Jq_isEmpty ∈ tbG := tbG_in (k := 15) (by decide +kernel) rfl
theorem t_16 : Cond.selects "CeilingScheduler" y_Cs_goesBefore y_Cs_goesBefore ∈ tbG := tbG_in (k := 16) (by decide +kernel) rfl
theorem t_17 : Cond.selects "CeilingScheduler" y_Cs_activePriority y_Cs_activePriority ∈ tbG := tbG_in (k := 17) (by decide +kernel) rfl
theorem t_18 : Cond.selects "CeilingScheduler$Task" y_Ta_heldObject y_Ta_heldObject ∈ tbG := tbG_in (k := 18) (by decide +kernel) rfl
theorem t_19 : Cond.selects "CeilingScheduler$Section" y_Se_isHeldAfter y_Se_isHeldAfter ∈ tbG := tbG_in (k := 19) (by decide +kernel) rfl
theorem t_20 : Cond.selects "CeilingScheduler$JobQueue" y_Jq_releaseOfFront y_Jq_releaseOfFront ∈ tbG := tbG_in (k := 20) (by decide +kernel) rfl
theorem t_21 : Cond.selects "CeilingScheduler$History" y_Hi_pass y_Hi_pass ∈ tbG := tbG_in (k := 21) (by decide +kernel) rfl
theorem t_22 : Cond.selects "CeilingScheduler$Task" y_Ta_doUnit y_Ta_doUnit ∈ tbG := tbG_in (k := 22) (by decide +kernel) rfl
theorem t_23 : Cond.selects "CeilingScheduler$JobQueue" y_Jq_finishFront y_Jq_finishFront ∈ tbG := tbG_in (k := 23) (by decide +kernel) rfl
theorem t_24 : Cond.selects "CeilingScheduler$JobQueue" y_Jq_lateAt y_Jq_lateAt ∈ tbG := tbG_in (k := 24) (by decide +kernel) rfl
theorem t_25 : Cond.selects "CeilingScheduler$History" y_Hi_holdsUnit y_Hi_holdsUnit ∈ tbG := tbG_in (k := 25) (by decide +kernel) rfl
theorem t_26 : Cond.selects "CeilingScheduler$History" y_Hi_taskOfUnit y_Hi_taskOfUnit ∈ tbG := tbG_in (k := 26) (by decide +kernel) rfl
theorem t_27 : Cond.selects "CeilingScheduler" y_Cs_jobsNotDone y_Cs_jobsNotDone ∈ tbG := tbG_in (k := 27) (by decide +kernel) rfl
theorem t_28 : Cond.selects "CeilingScheduler" y_Cs_allBoundsMeetDeadlines y_Cs_allBoundsMeetDeadlines ∈ tbG := tbG_in (k := 28) (by decide +kernel) rfl
theorem t_29 : Cond.selects "CeilingScheduler" y_Cs_boundOf y_Cs_boundOf ∈ tbG := tbG_in (k := 29) (by decide +kernel) rfl
theorem t_30 : Cond.selects "CeilingScheduler" y_Cs_blockingOf y_Cs_blockingOf ∈ tbG := tbG_in (k := 30) (by decide +kernel) rfl
theorem t_31 : Cond.selects "CeilingScheduler" y_Cs_longestSectionFrom y_Cs_longestSectionFrom ∈ tbG := tbG_in (k := 31) (by decide +kernel) rfl
theorem t_32 : Cond.selects "CeilingScheduler" y_Cs_timeOfOthers y_Cs_timeOfOthers ∈ tbG := tbG_in (k := 32) (by decide +kernel) rfl
theorem t_33 : Cond.selects "CeilingScheduler$Task" y_Ta_mostReleasesIn y_Ta_mostReleasesIn ∈ tbG := tbG_in (k := 33) (by decide +kernel) rfl
theorem t_34 : Cond.selects "CeilingSchedulerModel" y_Mo_out y_Mo_out ∈ tbG := tbG_in (k := 34) (by decide +kernel) rfl
theorem t_35 : Cond.selects "CeilingSchedulerModel" y_Mo_no y_Mo_no ∈ tbG := tbG_in (k := 35) (by decide +kernel) rfl
theorem t_36 : Cond.selects "CeilingSchedulerModel" y_Mo_sectionAt y_Mo_sectionAt ∈ tbG := tbG_in (k := 36) (by decide +kernel) rfl
theorem t_37 : Cond.selects "CeilingSchedulerModel" y_Mo_letGo y_Mo_letGo ∈ tbG := tbG_in (k := 37) (by decide +kernel) rfl
theorem t_38 : Cond.selects "CeilingSchedulerModel" y_Mo_unit y_Mo_unit ∈ tbG := tbG_in (k := 38) (by decide +kernel) rfl
theorem t_39 : Cond.selects "CeilingSchedulerModel" y_Mo_comes y_Mo_comes ∈ tbG := tbG_in (k := 39) (by decide +kernel) rfl
theorem t_40 : Cond.selects "CeilingSchedulerModel" y_Mo_goesBefore y_Mo_goesBefore ∈ tbG := tbG_in (k := 40) (by decide +kernel) rfl
theorem t_41 : Cond.selects "CeilingSchedulerModel" y_Mo_active y_Mo_active ∈ tbG := tbG_in (k := 41) (by decide +kernel) rfl
theorem t_42 : Cond.selects "CeilingSchedulerModel" y_Mo_held y_Mo_held ∈ tbG := tbG_in (k := 42) (by decide +kernel) rfl
theorem t_43 : Cond.selects "CeilingSchedulerModel" y_Mo_work y_Mo_work ∈ tbG := tbG_in (k := 43) (by decide +kernel) rfl
theorem t_44 : Cond.initialized "CeilingSchedulerLaw" ∈ tbG := tbG_in (k := 44) (by decide +kernel) rfl
theorem t_45 : Cond.initialized "CeilingScheduler" ∈ tbG := tbG_in (k := 45) (by decide +kernel) rfl
theorem t_46 : Cond.initialized "java/util/AbstractCollection" ∈ tbG := tbG_in (k := 46) (by decide +kernel) rfl
theorem t_47 : Cond.initialized "java/util/AbstractList" ∈ tbG := tbG_in (k := 47) (by decide +kernel) rfl
theorem t_48 : Cond.initialized "java/util/ArrayList" ∈ tbG := tbG_in (k := 48) (by decide +kernel) rfl
theorem t_49 : Cond.initialized "CeilingScheduler$History" ∈ tbG := tbG_in (k := 49) (by decide +kernel) rfl
theorem t_50 : Cond.initialized "CeilingSchedulerModel" ∈ tbG := tbG_in (k := 50) (by decide +kernel) rfl
theorem t_51 : Cond.initialized "CeilingScheduler$Task" ∈ tbG := tbG_in (k := 51) (by decide +kernel) rfl
theorem t_52 : Cond.initialized "CeilingScheduler$JobQueue" ∈ tbG := tbG_in (k := 52) (by decide +kernel) rfl
theorem t_53 : Cond.initialized "jdk/internal/util/ArraysSupport" ∈ tbG := tbG_in (k := 53) (by decide +kernel) rfl
theorem t_54 : Cond.initialized "java/lang/Math" ∈ tbG := tbG_in (k := 54) (by decide +kernel) rfl
theorem t_55 : Cond.initialized "java/util/Arrays" ∈ tbG := tbG_in (k := 55) (by decide +kernel) rfl
theorem t_56 : Cond.initialized "java/lang/System" ∈ tbG := tbG_in (k := 56) (by decide +kernel) rfl
theorem t_57 : Cond.initialized "java/util/Objects" ∈ tbG := tbG_in (k := 57) (by decide +kernel) rfl
theorem t_58 : Cond.initialized "jdk/internal/util/Preconditions" ∈ tbG := tbG_in (k := 58) (by decide +kernel) rfl
theorem t_59 : Cond.initialized "CeilingScheduler$Section" ∈ tbG := tbG_in (k := 59) (by decide +kernel) rfl
theorem t_60 : Cond.classLink "CeilingSchedulerLaw" 7 "CeilingScheduler" ∈ tbG := tbG_in (k := 60) (by decide +kernel) rfl
theorem t_61 : Cond.instantiable "CeilingScheduler" 4 ∈ tbG := tbG_in (k := 61) (by decide +kernel) rfl
theorem t_62 : Cond.methodLink "CeilingSchedulerLaw" 9 y_Cs_init ∈ tbG := tbG_in (k := 62) (by decide +kernel) rfl
theorem t_63 : Cond.instanceMethod y_Cs_init ∈ tbG := tbG_in (k := 63) (by decide +kernel) rfl
theorem t_65 : Cond.methodLink "CeilingScheduler" 1 y_Oj_init ∈ tbG := tbG_in (k := 65) (by decide +kernel) rfl
theorem t_66 : Cond.instanceMethod y_Oj_init ∈ tbG := tbG_in (k := 66) (by decide +kernel) rfl
theorem t_68 : Cond.classLink "CeilingScheduler" 7 "java/util/ArrayList" ∈ tbG := tbG_in (k := 68) (by decide +kernel) rfl
theorem t_69 : Cond.instantiable "java/util/ArrayList" 3 ∈ tbG := tbG_in (k := 69) (by decide +kernel) rfl
theorem t_70 : Cond.methodLink "CeilingScheduler" 9 y_AL_init ∈ tbG := tbG_in (k := 70) (by decide +kernel) rfl
theorem t_71 : Cond.instanceMethod y_AL_init ∈ tbG := tbG_in (k := 71) (by decide +kernel) rfl
theorem t_73 : Cond.methodLink "java/util/ArrayList" 1 y_Ab_init ∈ tbG := tbG_in (k := 73) (by decide +kernel) rfl
theorem t_74 : Cond.instanceMethod y_Ab_init ∈ tbG := tbG_in (k := 74) (by decide +kernel) rfl
theorem t_76 : Cond.methodLink "java/util/AbstractList" 1 y_Ac_init ∈ tbG := tbG_in (k := 76) (by decide +kernel) rfl
theorem t_77 : Cond.instanceMethod y_Ac_init ∈ tbG := tbG_in (k := 77) (by decide +kernel) rfl
theorem t_79 : Cond.methodLink "java/util/AbstractCollection" 1 y_Oj_init ∈ tbG := tbG_in (k := 79) (by decide +kernel) rfl
theorem t_80 : Cond.fieldLink "java/util/ArrayList" 39 "java/util/ArrayList" "DEFAULTCAPACITY_EMPTY_ELEMENTDATA" "[Ljava/lang/Object;" ∈ tbG := tbG_in (k := 80) (by decide +kernel) rfl
theorem t_82 : Cond.fieldLink "java/util/ArrayList" 9 "java/util/ArrayList" "elementData" "[Ljava/lang/Object;" ∈ tbG := tbG_in (k := 82) (by decide +kernel) rfl
theorem t_83 : Cond.fieldLink "java/util/ArrayList" 48 "java/util/ArrayList" "size" "I" ∈ tbG := tbG_in (k := 83) (by decide +kernel) rfl
theorem t_84 : Cond.fieldLink "java/util/AbstractList" 7 "java/util/AbstractList" "modCount" "I" ∈ tbG := tbG_in (k := 84) (by decide +kernel) rfl
theorem t_85 : Cond.fieldLink "java/util/ArrayList" 63 "java/util/ArrayList" "modCount" "I" ∈ tbG := tbG_in (k := 85) (by decide +kernel) rfl
theorem t_86 : Cond.sameField "java/util/ArrayList" "java/util/AbstractList" "modCount" "I" ∈ tbG := tbG_in (k := 86) (by decide +kernel) rfl
theorem t_94 : Cond.classLink "CeilingScheduler" 20 "CeilingScheduler$History" ∈ tbG := tbG_in (k := 94) (by decide +kernel) rfl
theorem t_95 : Cond.instantiable "CeilingScheduler$History" 6 ∈ tbG := tbG_in (k := 95) (by decide +kernel) rfl
theorem n_96 : Cond.methodLinkNest "CeilingScheduler" 22 y_Hi_init "CeilingScheduler" ∈ nwL := nwL_in (k := 96) (by decide +kernel) rfl
theorem t_97 : Cond.instanceMethod y_Hi_init ∈ tbG := tbG_in (k := 97) (by decide +kernel) rfl
theorem t_99 : Cond.methodLink "CeilingScheduler$History" 3 y_Oj_init ∈ tbG := tbG_in (k := 99) (by decide +kernel) rfl
theorem t_100 : Cond.fieldLink "CeilingScheduler$History" 9 "CeilingScheduler$History" "taskOf" "[I" ∈ tbG := tbG_in (k := 100) (by decide +kernel) rfl
theorem t_101 : Cond.fieldLink "CeilingScheduler$History" 22 "CeilingScheduler$History" "time" "I" ∈ tbG := tbG_in (k := 101) (by decide +kernel) rfl
theorem n_102 : Cond.fieldLinkNest "CeilingScheduler" 96 "CeilingScheduler$History" "time" "I" "CeilingScheduler" ∈ nwL := nwL_in (k := 102) (by decide +kernel) rfl
theorem t_103 : Cond.fieldLink "CeilingScheduler$History" 31 "CeilingScheduler$History" "idleUnits" "I" ∈ tbG := tbG_in (k := 103) (by decide +kernel) rfl
theorem n_104 : Cond.fieldLinkNest "CeilingScheduler" 156 "CeilingScheduler$History" "idleUnits" "I" "CeilingScheduler" ∈ nwL := nwL_in (k := 104) (by decide +kernel) rfl
theorem t_105 : Cond.fieldLink "CeilingScheduler$History" 34 "CeilingScheduler$History" "switches" "I" ∈ tbG := tbG_in (k := 105) (by decide +kernel) rfl
theorem n_106 : Cond.fieldLinkNest "CeilingScheduler" 159 "CeilingScheduler$History" "switches" "I" "CeilingScheduler" ∈ nwL := nwL_in (k := 106) (by decide +kernel) rfl
theorem t_107 : Cond.fieldLink "CeilingScheduler$History" 15 "CeilingScheduler$History" "lastRan" "I" ∈ tbG := tbG_in (k := 107) (by decide +kernel) rfl
theorem n_108 : Cond.fieldLinkNest "CeilingScheduler" 117 "CeilingScheduler$History" "lastRan" "I" "CeilingScheduler" ∈ nwL := nwL_in (k := 108) (by decide +kernel) rfl
theorem t_109 : Cond.fieldLink "CeilingScheduler$History" 19 "CeilingScheduler$History" "lastNotIdle" "I" ∈ tbG := tbG_in (k := 109) (by decide +kernel) rfl
theorem t_123 : Cond.arrayClass FieldType.int ∈ tbG := tbG_in (k := 123) (by decide +kernel) rfl
theorem t_124 : Cond.fieldLink "CeilingScheduler" 10 "CeilingScheduler" "tasks" "Ljava/util/ArrayList;" ∈ tbG := tbG_in (k := 124) (by decide +kernel) rfl
theorem t_125 : Cond.fieldLink "CeilingScheduler" 16 "CeilingScheduler" "ceilings" "[I" ∈ tbG := tbG_in (k := 125) (by decide +kernel) rfl
theorem t_126 : Cond.fieldLink "CeilingScheduler" 23 "CeilingScheduler" "history" "LCeilingScheduler$History;" ∈ tbG := tbG_in (k := 126) (by decide +kernel) rfl
theorem t_127 : Cond.fieldLink "CeilingScheduler" 27 "CeilingScheduler" "started" "Z" ∈ tbG := tbG_in (k := 127) (by decide +kernel) rfl
theorem t_137 : Cond.methodLink "CeilingSchedulerLaw" 13 y_Cs_define ∈ tbG := tbG_in (k := 137) (by decide +kernel) rfl
theorem t_138 : Cond.instanceMethod y_Cs_define ∈ tbG := tbG_in (k := 138) (by decide +kernel) rfl
theorem t_139 : Cond.selects "CeilingScheduler" y_Cs_define y_Cs_define ∈ tbG := tbG_in (k := 139) (by decide +kernel) rfl
theorem t_141 : Cond.methodLink "CeilingScheduler" 31 y_Cs_isOutside ∈ tbG := tbG_in (k := 141) (by decide +kernel) rfl
theorem t_142 : Cond.static y_Cs_isOutside ∈ tbG := tbG_in (k := 142) (by decide +kernel) rfl
theorem t_144 : Cond.methodLink "CeilingScheduler" 35 y_AL_size ∈ tbG := tbG_in (k := 144) (by decide +kernel) rfl
theorem t_145 : Cond.instanceMethod y_AL_size ∈ tbG := tbG_in (k := 145) (by decide +kernel) rfl
theorem t_146 : Cond.selects "java/util/ArrayList" y_AL_size y_AL_size ∈ tbG := tbG_in (k := 146) (by decide +kernel) rfl
theorem t_148 : Cond.classLink "CeilingScheduler" 39 "CeilingScheduler$Task" ∈ tbG := tbG_in (k := 148) (by decide +kernel) rfl
theorem t_149 : Cond.instantiable "CeilingScheduler$Task" 8 ∈ tbG := tbG_in (k := 149) (by decide +kernel) rfl
theorem n_150 : Cond.methodLinkNest "CeilingScheduler" 41 y_Ta_init "CeilingScheduler" ∈ nwL := nwL_in (k := 150) (by decide +kernel) rfl
theorem t_151 : Cond.instanceMethod y_Ta_init ∈ tbG := tbG_in (k := 151) (by decide +kernel) rfl
theorem t_153 : Cond.methodLink "CeilingScheduler$Task" 3 y_Oj_init ∈ tbG := tbG_in (k := 153) (by decide +kernel) rfl
theorem t_154 : Cond.classLink "CeilingScheduler$Task" 9 "java/util/ArrayList" ∈ tbG := tbG_in (k := 154) (by decide +kernel) rfl
theorem t_155 : Cond.methodLink "CeilingScheduler$Task" 11 y_AL_init ∈ tbG := tbG_in (k := 155) (by decide +kernel) rfl
theorem t_156 : Cond.classLink "CeilingScheduler$Task" 18 "CeilingScheduler$JobQueue" ∈ tbG := tbG_in (k := 156) (by decide +kernel) rfl
theorem t_157 : Cond.instantiable "CeilingScheduler$JobQueue" 8 ∈ tbG := tbG_in (k := 157) (by decide +kernel) rfl
theorem n_158 : Cond.methodLinkNest "CeilingScheduler$Task" 20 y_Jq_init "CeilingScheduler" ∈ nwL := nwL_in (k := 158) (by decide +kernel) rfl
theorem t_159 : Cond.instanceMethod y_Jq_init ∈ tbG := tbG_in (k := 159) (by decide +kernel) rfl
theorem t_161 : Cond.methodLink "CeilingScheduler$JobQueue" 3 y_Oj_init ∈ tbG := tbG_in (k := 161) (by decide +kernel) rfl
theorem t_162 : Cond.fieldLink "CeilingScheduler$JobQueue" 9 "CeilingScheduler$JobQueue" "releases" "[I" ∈ tbG := tbG_in (k := 162) (by decide +kernel) rfl
theorem t_163 : Cond.fieldLink "CeilingScheduler$JobQueue" 25 "CeilingScheduler$JobQueue" "front" "I" ∈ tbG := tbG_in (k := 163) (by decide +kernel) rfl
theorem t_164 : Cond.fieldLink "CeilingScheduler$JobQueue" 15 "CeilingScheduler$JobQueue" "notDone" "I" ∈ tbG := tbG_in (k := 164) (by decide +kernel) rfl
theorem n_165 : Cond.fieldLinkNest "CeilingScheduler" 123 "CeilingScheduler$JobQueue" "notDone" "I" "CeilingScheduler" ∈ nwL := nwL_in (k := 165) (by decide +kernel) rfl
theorem n_166 : Cond.fieldLinkNest "CeilingScheduler$Task" 49 "CeilingScheduler$JobQueue" "unitsOfFront" "I" "CeilingScheduler" ∈ nwL := nwL_in (k := 166) (by decide +kernel) rfl
theorem t_167 : Cond.fieldLink "CeilingScheduler$JobQueue" 44 "CeilingScheduler$JobQueue" "unitsOfFront" "I" ∈ tbG := tbG_in (k := 167) (by decide +kernel) rfl
theorem n_168 : Cond.fieldLinkNest "CeilingScheduler" 137 "CeilingScheduler$JobQueue" "unitsOfFront" "I" "CeilingScheduler" ∈ nwL := nwL_in (k := 168) (by decide +kernel) rfl
theorem t_169 : Cond.fieldLink "CeilingScheduler$JobQueue" 19 "CeilingScheduler$JobQueue" "released" "I" ∈ tbG := tbG_in (k := 169) (by decide +kernel) rfl
theorem n_170 : Cond.fieldLinkNest "CeilingScheduler" 120 "CeilingScheduler$JobQueue" "released" "I" "CeilingScheduler" ∈ nwL := nwL_in (k := 170) (by decide +kernel) rfl
theorem t_171 : Cond.fieldLink "CeilingScheduler$JobQueue" 22 "CeilingScheduler$JobQueue" "lastRelease" "I" ∈ tbG := tbG_in (k := 171) (by decide +kernel) rfl
theorem t_172 : Cond.fieldLink "CeilingScheduler$JobQueue" 41 "CeilingScheduler$JobQueue" "doneLate" "I" ∈ tbG := tbG_in (k := 172) (by decide +kernel) rfl
theorem t_173 : Cond.fieldLink "CeilingScheduler$JobQueue" 32 "CeilingScheduler$JobQueue" "greatestResponse" "I" ∈ tbG := tbG_in (k := 173) (by decide +kernel) rfl
theorem n_174 : Cond.fieldLinkNest "CeilingScheduler" 133 "CeilingScheduler$JobQueue" "greatestResponse" "I" "CeilingScheduler" ∈ nwL := nwL_in (k := 174) (by decide +kernel) rfl
theorem t_192 : Cond.fieldLink "CeilingScheduler$Task" 25 "CeilingScheduler$Task" "period" "I" ∈ tbG := tbG_in (k := 192) (by decide +kernel) rfl
theorem n_193 : Cond.fieldLinkNest "CeilingScheduler" 93 "CeilingScheduler$Task" "period" "I" "CeilingScheduler" ∈ nwL := nwL_in (k := 193) (by decide +kernel) rfl
theorem t_194 : Cond.fieldLink "CeilingScheduler$Task" 29 "CeilingScheduler$Task" "cost" "I" ∈ tbG := tbG_in (k := 194) (by decide +kernel) rfl
theorem n_195 : Cond.fieldLinkNest "CeilingScheduler" 63 "CeilingScheduler$Task" "cost" "I" "CeilingScheduler" ∈ nwL := nwL_in (k := 195) (by decide +kernel) rfl
theorem t_196 : Cond.fieldLink "CeilingScheduler$Task" 32 "CeilingScheduler$Task" "deadline" "I" ∈ tbG := tbG_in (k := 196) (by decide +kernel) rfl
theorem n_197 : Cond.fieldLinkNest "CeilingScheduler" 126 "CeilingScheduler$Task" "deadline" "I" "CeilingScheduler" ∈ nwL := nwL_in (k := 197) (by decide +kernel) rfl
theorem t_198 : Cond.fieldLink "CeilingScheduler$Task" 35 "CeilingScheduler$Task" "priority" "I" ∈ tbG := tbG_in (k := 198) (by decide +kernel) rfl
theorem n_199 : Cond.fieldLinkNest "CeilingScheduler" 71 "CeilingScheduler$Task" "priority" "I" "CeilingScheduler" ∈ nwL := nwL_in (k := 199) (by decide +kernel) rfl
theorem t_200 : Cond.fieldLink "CeilingScheduler$Task" 38 "CeilingScheduler$Task" "sporadic" "Z" ∈ tbG := tbG_in (k := 200) (by decide +kernel) rfl
theorem n_201 : Cond.fieldLinkNest "CeilingScheduler" 86 "CeilingScheduler$Task" "sporadic" "Z" "CeilingScheduler" ∈ nwL := nwL_in (k := 201) (by decide +kernel) rfl
theorem t_202 : Cond.fieldLink "CeilingScheduler$Task" 12 "CeilingScheduler$Task" "sections" "Ljava/util/ArrayList;" ∈ tbG := tbG_in (k := 202) (by decide +kernel) rfl
theorem n_203 : Cond.fieldLinkNest "CeilingScheduler" 74 "CeilingScheduler$Task" "sections" "Ljava/util/ArrayList;" "CeilingScheduler" ∈ nwL := nwL_in (k := 203) (by decide +kernel) rfl
theorem t_204 : Cond.fieldLink "CeilingScheduler$Task" 21 "CeilingScheduler$Task" "jobs" "LCeilingScheduler$JobQueue;" ∈ tbG := tbG_in (k := 204) (by decide +kernel) rfl
theorem n_205 : Cond.fieldLinkNest "CeilingScheduler" 89 "CeilingScheduler$Task" "jobs" "LCeilingScheduler$JobQueue;" "CeilingScheduler" ∈ nwL := nwL_in (k := 205) (by decide +kernel) rfl
theorem t_206 : Cond.fieldLink "CeilingScheduler$Task" 42 "CeilingScheduler$Task" "nextRelease" "I" ∈ tbG := tbG_in (k := 206) (by decide +kernel) rfl
theorem t_224 : Cond.methodLink "CeilingScheduler" 44 y_AL_add ∈ tbG := tbG_in (k := 224) (by decide +kernel) rfl
theorem t_225 : Cond.instanceMethod y_AL_add ∈ tbG := tbG_in (k := 225) (by decide +kernel) rfl
theorem t_226 : Cond.selects "java/util/ArrayList" y_AL_add y_AL_add ∈ tbG := tbG_in (k := 226) (by decide +kernel) rfl
theorem t_228 : Cond.methodLink "java/util/ArrayList" 131 y_AL_add_Ljaval ∈ tbG := tbG_in (k := 228) (by decide +kernel) rfl
theorem t_230 : Cond.instanceMethod y_AL_add_Ljaval ∈ tbG := tbG_in (k := 230) (by decide +kernel) rfl
theorem t_232 : Cond.methodLink "java/util/ArrayList" 129 y_AL_grow ∈ tbG := tbG_in (k := 232) (by decide +kernel) rfl
theorem t_234 : Cond.instanceMethod y_AL_grow ∈ tbG := tbG_in (k := 234) (by decide +kernel) rfl
theorem t_236 : Cond.methodLink "java/util/ArrayList" 69 y_AL_grow_ILjava ∈ tbG := tbG_in (k := 236) (by decide +kernel) rfl
theorem t_238 : Cond.instanceMethod y_AL_grow_ILjava ∈ tbG := tbG_in (k := 238) (by decide +kernel) rfl
theorem t_240 : Cond.methodLink "java/util/ArrayList" 73 ⟨"jdk/internal/util/ArraysSupport", "newLength", "(III)I"⟩ ∈ tbG := tbG_in (k := 240) (by decide +kernel) rfl
theorem t_241 : Cond.static ⟨"jdk/internal/util/ArraysSupport", "newLength", "(III)I"⟩ ∈ tbG := tbG_in (k := 241) (by decide +kernel) rfl
theorem t_243 : Cond.methodLink "jdk/internal/util/ArraysSupport" 194 y_Ma_max ∈ tbG := tbG_in (k := 243) (by decide +kernel) rfl
theorem t_244 : Cond.static y_Ma_max ∈ tbG := tbG_in (k := 244) (by decide +kernel) rfl
theorem t_247 : Cond.methodLink "jdk/internal/util/ArraysSupport" 201 ⟨"jdk/internal/util/ArraysSupport", "hugeLength", "(II)I"⟩ ∈ tbG := tbG_in (k := 247) (by decide +kernel) rfl
theorem t_248 : Cond.static ⟨"jdk/internal/util/ArraysSupport", "hugeLength", "(II)I"⟩ ∈ tbG := tbG_in (k := 248) (by decide +kernel) rfl
theorem t_250 : Cond.methodLink "java/util/ArrayList" 66 ⟨"java/util/Arrays", "copyOf", "([Ljava/lang/Object;I)[Ljava/lang/Object;"⟩ ∈ tbG := tbG_in (k := 250) (by decide +kernel) rfl
theorem t_251 : Cond.static ⟨"java/util/Arrays", "copyOf", "([Ljava/lang/Object;I)[Ljava/lang/Object;"⟩ ∈ tbG := tbG_in (k := 251) (by decide +kernel) rfl
theorem t_253 : Cond.methodLink "java/util/Arrays" 86 ⟨"java/lang/Object", "getClass", "()Ljava/lang/Class;"⟩ ∈ tbG := tbG_in (k := 253) (by decide +kernel) rfl
theorem t_254 : Cond.instanceMethod ⟨"java/lang/Object", "getClass", "()Ljava/lang/Class;"⟩ ∈ tbG := tbG_in (k := 254) (by decide +kernel) rfl
theorem t_256 : Cond.selects "CeilingScheduler" ⟨"java/lang/Object", "getClass", "()Ljava/lang/Class;"⟩ ⟨"java/lang/Object", "getClass", "()Ljava/lang/Class;"⟩ ∈ tbG := tbG_in (k := 256) (by decide +kernel) rfl
theorem t_257 : Cond.selects "CeilingScheduler$History" ⟨"java/lang/Object", "getClass", "()Ljava/lang/Class;"⟩ ⟨"java/lang/Object", "getClass", "()Ljava/lang/Class;"⟩ ∈ tbG := tbG_in (k := 257) (by decide +kernel) rfl
theorem t_258 : Cond.selects "CeilingScheduler$JobQueue" ⟨"java/lang/Object", "getClass", "()Ljava/lang/Class;"⟩ ⟨"java/lang/Object", "getClass", "()Ljava/lang/Class;"⟩ ∈ tbG := tbG_in (k := 258) (by decide +kernel) rfl
theorem t_259 : Cond.selects "CeilingScheduler$Section" ⟨"java/lang/Object", "getClass", "()Ljava/lang/Class;"⟩ ⟨"java/lang/Object", "getClass", "()Ljava/lang/Class;"⟩ ∈ tbG := tbG_in (k := 259) (by decide +kernel) rfl
theorem t_260 : Cond.selects "CeilingScheduler$Task" ⟨"java/lang/Object", "getClass", "()Ljava/lang/Class;"⟩ ⟨"java/lang/Object", "getClass", "()Ljava/lang/Class;"⟩ ∈ tbG := tbG_in (k := 260) (by decide +kernel) rfl
theorem t_261 : Cond.selects "CeilingSchedulerModel" ⟨"java/lang/Object", "getClass", "()Ljava/lang/Class;"⟩ ⟨"java/lang/Object", "getClass", "()Ljava/lang/Class;"⟩ ∈ tbG := tbG_in (k := 261) (by decide +kernel) rfl
theorem t_262 : Cond.selects "java/util/ArrayList" ⟨"java/lang/Object", "getClass", "()Ljava/lang/Class;"⟩ ⟨"java/lang/Object", "getClass", "()Ljava/lang/Class;"⟩ ∈ tbG := tbG_in (k := 262) (by decide +kernel) rfl
theorem t_264 : Cond.methodLink "java/util/Arrays" 300 ⟨"java/util/Arrays", "copyOf", "([Ljava/lang/Object;ILjava/lang/Class;)[Ljava/lang/Object;"⟩ ∈ tbG := tbG_in (k := 264) (by decide +kernel) rfl
theorem t_265 : Cond.static ⟨"java/util/Arrays", "copyOf", "([Ljava/lang/Object;ILjava/lang/Class;)[Ljava/lang/Object;"⟩ ∈ tbG := tbG_in (k := 265) (by decide +kernel) rfl
theorem t_267 : Cond.classLink "java/util/Arrays" 110 "[Ljava/lang/Object;" ∈ tbG := tbG_in (k := 267) (by decide +kernel) rfl
theorem t_269 : Cond.classLink "java/util/Arrays" 2 "java/lang/Object" ∈ tbG := tbG_in (k := 269) (by decide +kernel) rfl
theorem t_270 : Cond.methodLink "java/util/Arrays" 304 y_Ma_min ∈ tbG := tbG_in (k := 270) (by decide +kernel) rfl
theorem t_271 : Cond.static y_Ma_min ∈ tbG := tbG_in (k := 271) (by decide +kernel) rfl
theorem t_273 : Cond.methodLink "java/util/Arrays" 150 ⟨"java/lang/System", "arraycopy", "(Ljava/lang/Object;ILjava/lang/Object;II)V"⟩ ∈ tbG := tbG_in (k := 273) (by decide +kernel) rfl
theorem t_274 : Cond.static ⟨"java/lang/System", "arraycopy", "(Ljava/lang/Object;ILjava/lang/Object;II)V"⟩ ∈ tbG := tbG_in (k := 274) (by decide +kernel) rfl
theorem t_276 : Cond.methodLink "java/util/ArrayList" 79 y_Ma_max ∈ tbG := tbG_in (k := 276) (by decide +kernel) rfl
theorem t_277 : Cond.classLink "java/util/ArrayList" 7 "java/lang/Object" ∈ tbG := tbG_in (k := 277) (by decide +kernel) rfl
theorem t_278 : Cond.methodLink "CeilingSchedulerLaw" 18 y_Cs_ceiling ∈ tbG := tbG_in (k := 278) (by decide +kernel) rfl
theorem t_279 : Cond.instanceMethod y_Cs_ceiling ∈ tbG := tbG_in (k := 279) (by decide +kernel) rfl
theorem t_280 : Cond.selects "CeilingScheduler" y_Cs_ceiling y_Cs_ceiling ∈ tbG := tbG_in (k := 280) (by decide +kernel) rfl
theorem t_282 : Cond.methodLink "CeilingScheduler" 48 y_Cs_isNoObject ∈ tbG := tbG_in (k := 282) (by decide +kernel) rfl
theorem t_283 : Cond.static y_Cs_isNoObject ∈ tbG := tbG_in (k := 283) (by decide +kernel) rfl
theorem t_285 : Cond.methodLink "CeilingScheduler" 52 y_Cs_greatestPriorityOn ∈ tbG := tbG_in (k := 285) (by decide +kernel) rfl
theorem t_287 : Cond.instanceMethod y_Cs_greatestPriorityOn ∈ tbG := tbG_in (k := 287) (by decide +kernel) rfl
theorem t_289 : Cond.methodLink "CeilingScheduler" 59 y_AL_get ∈ tbG := tbG_in (k := 289) (by decide +kernel) rfl
theorem t_290 : Cond.instanceMethod y_AL_get ∈ tbG := tbG_in (k := 290) (by decide +kernel) rfl
theorem t_291 : Cond.selects "java/util/ArrayList" y_AL_get y_AL_get ∈ tbG := tbG_in (k := 291) (by decide +kernel) rfl
theorem t_293 : Cond.methodLink "java/util/ArrayList" 118 y_Ob_checkIndex ∈ tbG := tbG_in (k := 293) (by decide +kernel) rfl
theorem t_294 : Cond.static y_Ob_checkIndex ∈ tbG := tbG_in (k := 294) (by decide +kernel) rfl
theorem t_296 : Cond.methodLink "java/util/Objects" 105 y_Pc_checkIndex ∈ tbG := tbG_in (k := 296) (by decide +kernel) rfl
theorem t_297 : Cond.static y_Pc_checkIndex ∈ tbG := tbG_in (k := 297) (by decide +kernel) rfl
theorem t_299 : Cond.methodLink "java/util/ArrayList" 123 y_AL_elementData ∈ tbG := tbG_in (k := 299) (by decide +kernel) rfl
theorem t_300 : Cond.instanceMethod y_AL_elementData ∈ tbG := tbG_in (k := 300) (by decide +kernel) rfl
theorem t_301 : Cond.selects "java/util/ArrayList" y_AL_elementData y_AL_elementData ∈ tbG := tbG_in (k := 301) (by decide +kernel) rfl
theorem n_303 : Cond.methodLinkNest "CeilingScheduler" 213 y_Ta_hasSectionOn "CeilingScheduler" ∈ nwL := nwL_in (k := 303) (by decide +kernel) rfl
theorem t_305 : Cond.instanceMethod y_Ta_hasSectionOn ∈ tbG := tbG_in (k := 305) (by decide +kernel) rfl
theorem t_307 : Cond.methodLink "CeilingScheduler$Task" 56 y_AL_size ∈ tbG := tbG_in (k := 307) (by decide +kernel) rfl
theorem t_308 : Cond.methodLink "CeilingScheduler$Task" 60 y_AL_get ∈ tbG := tbG_in (k := 308) (by decide +kernel) rfl
theorem t_309 : Cond.classLink "CeilingScheduler$Task" 64 "CeilingScheduler$Section" ∈ tbG := tbG_in (k := 309) (by decide +kernel) rfl
theorem t_310 : Cond.methodLink "CeilingScheduler" 178 y_Ma_max ∈ tbG := tbG_in (k := 310) (by decide +kernel) rfl
theorem t_311 : Cond.methodLink "CeilingSchedulerLaw" 23 y_Cs_section ∈ tbG := tbG_in (k := 311) (by decide +kernel) rfl
theorem t_312 : Cond.instanceMethod y_Cs_section ∈ tbG := tbG_in (k := 312) (by decide +kernel) rfl
theorem t_313 : Cond.selects "CeilingScheduler" y_Cs_section y_Cs_section ∈ tbG := tbG_in (k := 313) (by decide +kernel) rfl
theorem t_315 : Cond.methodLink "CeilingScheduler" 56 y_Cs_isNoTask ∈ tbG := tbG_in (k := 315) (by decide +kernel) rfl
theorem t_317 : Cond.instanceMethod y_Cs_isNoTask ∈ tbG := tbG_in (k := 317) (by decide +kernel) rfl
theorem n_319 : Cond.methodLinkNest "CeilingScheduler" 67 y_Ta_hasSectionWithin "CeilingScheduler" ∈ nwL := nwL_in (k := 319) (by decide +kernel) rfl
theorem t_321 : Cond.instanceMethod y_Ta_hasSectionWithin ∈ tbG := tbG_in (k := 321) (by decide +kernel) rfl
theorem t_323 : Cond.classLink "CeilingScheduler" 77 "CeilingScheduler$Section" ∈ tbG := tbG_in (k := 323) (by decide +kernel) rfl
theorem t_324 : Cond.instantiable "CeilingScheduler$Section" 3 ∈ tbG := tbG_in (k := 324) (by decide +kernel) rfl
theorem n_325 : Cond.methodLinkNest "CeilingScheduler" 79 y_Se_init "CeilingScheduler" ∈ nwL := nwL_in (k := 325) (by decide +kernel) rfl
theorem t_326 : Cond.instanceMethod y_Se_init ∈ tbG := tbG_in (k := 326) (by decide +kernel) rfl
theorem t_328 : Cond.methodLink "CeilingScheduler$Section" 1 y_Oj_init ∈ tbG := tbG_in (k := 328) (by decide +kernel) rfl
theorem t_329 : Cond.fieldLink "CeilingScheduler$Section" 7 "CeilingScheduler$Section" "object" "I" ∈ tbG := tbG_in (k := 329) (by decide +kernel) rfl
theorem n_330 : Cond.fieldLinkNest "CeilingScheduler$Task" 72 "CeilingScheduler$Section" "object" "I" "CeilingScheduler" ∈ nwL := nwL_in (k := 330) (by decide +kernel) rfl
theorem n_331 : Cond.fieldLinkNest "CeilingScheduler" 183 "CeilingScheduler$Section" "object" "I" "CeilingScheduler" ∈ nwL := nwL_in (k := 331) (by decide +kernel) rfl
theorem t_332 : Cond.fieldLink "CeilingScheduler$Section" 13 "CeilingScheduler$Section" "first" "I" ∈ tbG := tbG_in (k := 332) (by decide +kernel) rfl
theorem n_333 : Cond.fieldLinkNest "CeilingScheduler$Task" 66 "CeilingScheduler$Section" "first" "I" "CeilingScheduler" ∈ nwL := nwL_in (k := 333) (by decide +kernel) rfl
theorem t_334 : Cond.fieldLink "CeilingScheduler$Section" 16 "CeilingScheduler$Section" "length" "I" ∈ tbG := tbG_in (k := 334) (by decide +kernel) rfl
theorem n_335 : Cond.fieldLinkNest "CeilingScheduler$Task" 69 "CeilingScheduler$Section" "length" "I" "CeilingScheduler" ∈ nwL := nwL_in (k := 335) (by decide +kernel) rfl
theorem n_336 : Cond.fieldLinkNest "CeilingScheduler" 186 "CeilingScheduler$Section" "length" "I" "CeilingScheduler" ∈ nwL := nwL_in (k := 336) (by decide +kernel) rfl
theorem t_344 : Cond.methodLink "CeilingSchedulerLaw" 28 y_Cs_start ∈ tbG := tbG_in (k := 344) (by decide +kernel) rfl
theorem t_345 : Cond.instanceMethod y_Cs_start ∈ tbG := tbG_in (k := 345) (by decide +kernel) rfl
theorem t_346 : Cond.selects "CeilingScheduler" y_Cs_start y_Cs_start ∈ tbG := tbG_in (k := 346) (by decide +kernel) rfl
theorem t_348 : Cond.methodLink "CeilingScheduler" 82 y_AL_isEmpty ∈ tbG := tbG_in (k := 348) (by decide +kernel) rfl
theorem t_349 : Cond.instanceMethod y_AL_isEmpty ∈ tbG := tbG_in (k := 349) (by decide +kernel) rfl
theorem t_350 : Cond.selects "java/util/ArrayList" y_AL_isEmpty y_AL_isEmpty ∈ tbG := tbG_in (k := 350) (by decide +kernel) rfl
theorem t_352 : Cond.methodLink "CeilingSchedulerLaw" 33 y_Cs_event ∈ tbG := tbG_in (k := 352) (by decide +kernel) rfl
theorem t_353 : Cond.instanceMethod y_Cs_event ∈ tbG := tbG_in (k := 353) (by decide +kernel) rfl
theorem t_354 : Cond.selects "CeilingScheduler" y_Cs_event y_Cs_event ∈ tbG := tbG_in (k := 354) (by decide +kernel) rfl
theorem n_356 : Cond.methodLinkNest "CeilingScheduler" 99 y_Jq_hasReleaseWithin "CeilingScheduler" ∈ nwL := nwL_in (k := 356) (by decide +kernel) rfl
theorem t_358 : Cond.instanceMethod y_Jq_hasReleaseWithin ∈ tbG := tbG_in (k := 358) (by decide +kernel) rfl
theorem n_360 : Cond.methodLinkNest "CeilingScheduler" 104 y_Jq_isFull "CeilingScheduler" ∈ nwL := nwL_in (k := 360) (by decide +kernel) rfl
theorem t_362 : Cond.instanceMethod y_Jq_isFull ∈ tbG := tbG_in (k := 362) (by decide +kernel) rfl
theorem n_364 : Cond.methodLinkNest "CeilingScheduler" 107 y_Jq_release "CeilingScheduler" ∈ nwL := nwL_in (k := 364) (by decide +kernel) rfl
theorem t_366 : Cond.instanceMethod y_Jq_release ∈ tbG := tbG_in (k := 366) (by decide +kernel) rfl
theorem t_368 : Cond.methodLink "CeilingSchedulerLaw" 38 y_Cs_tick ∈ tbG := tbG_in (k := 368) (by decide +kernel) rfl
theorem t_369 : Cond.instanceMethod y_Cs_tick ∈ tbG := tbG_in (k := 369) (by decide +kernel) rfl
theorem t_370 : Cond.selects "CeilingScheduler" y_Cs_tick y_Cs_tick ∈ tbG := tbG_in (k := 370) (by decide +kernel) rfl
theorem t_372 : Cond.methodLink "CeilingScheduler" 111 y_Cs_isStopped ∈ tbG := tbG_in (k := 372) (by decide +kernel) rfl
theorem t_374 : Cond.instanceMethod y_Cs_isStopped ∈ tbG := tbG_in (k := 374) (by decide +kernel) rfl
theorem n_376 : Cond.methodLinkNest "CeilingScheduler" 195 y_Ta_isDueAt "CeilingScheduler" ∈ nwL := nwL_in (k := 376) (by decide +kernel) rfl
theorem t_378 : Cond.instanceMethod y_Ta_isDueAt ∈ tbG := tbG_in (k := 378) (by decide +kernel) rfl
theorem t_380 : Cond.methodLink "CeilingScheduler" 114 y_Cs_passUnit ∈ tbG := tbG_in (k := 380) (by decide +kernel) rfl
theorem t_382 : Cond.instanceMethod y_Cs_passUnit ∈ tbG := tbG_in (k := 382) (by decide +kernel) rfl
theorem n_384 : Cond.methodLinkNest "CeilingScheduler" 198 y_Ta_releasePeriodicJob "CeilingScheduler" ∈ nwL := nwL_in (k := 384) (by decide +kernel) rfl
theorem t_386 : Cond.instanceMethod y_Ta_releasePeriodicJob ∈ tbG := tbG_in (k := 386) (by decide +kernel) rfl
theorem n_388 : Cond.methodLinkNest "CeilingScheduler$Task" 45 y_Jq_release "CeilingScheduler" ∈ nwL := nwL_in (k := 388) (by decide +kernel) rfl
theorem t_389 : Cond.methodLink "CeilingScheduler" 201 y_Cs_chooseTask ∈ tbG := tbG_in (k := 389) (by decide +kernel) rfl
theorem t_391 : Cond.instanceMethod y_Cs_chooseTask ∈ tbG := tbG_in (k := 391) (by decide +kernel) rfl
theorem n_393 : Cond.methodLinkNest "CeilingScheduler" 136 y_Jq_isEmpty "CeilingScheduler" ∈ nwL := nwL_in (k := 393) (by decide +kernel) rfl
theorem t_395 : Cond.instanceMethod y_Jq_isEmpty ∈ tbG := tbG_in (k := 395) (by decide +kernel) rfl
theorem t_397 : Cond.methodLink "CeilingScheduler" 210 y_Cs_goesBefore ∈ tbG := tbG_in (k := 397) (by decide +kernel) rfl
theorem t_399 : Cond.instanceMethod y_Cs_goesBefore ∈ tbG := tbG_in (k := 399) (by decide +kernel) rfl
theorem t_401 : Cond.methodLink "CeilingScheduler" 140 y_Cs_activePriority ∈ tbG := tbG_in (k := 401) (by decide +kernel) rfl
theorem t_403 : Cond.instanceMethod y_Cs_activePriority ∈ tbG := tbG_in (k := 403) (by decide +kernel) rfl
theorem n_405 : Cond.methodLinkNest "CeilingScheduler" 147 y_Ta_heldObject "CeilingScheduler" ∈ nwL := nwL_in (k := 405) (by decide +kernel) rfl
theorem t_407 : Cond.instanceMethod y_Ta_heldObject ∈ tbG := tbG_in (k := 407) (by decide +kernel) rfl
theorem n_409 : Cond.methodLinkNest "CeilingScheduler$Task" 75 y_Se_isHeldAfter "CeilingScheduler" ∈ nwL := nwL_in (k := 409) (by decide +kernel) rfl
theorem t_411 : Cond.instanceMethod y_Se_isHeldAfter ∈ tbG := tbG_in (k := 411) (by decide +kernel) rfl
theorem n_413 : Cond.methodLinkNest "CeilingScheduler" 144 y_Jq_releaseOfFront "CeilingScheduler" ∈ nwL := nwL_in (k := 413) (by decide +kernel) rfl
theorem t_415 : Cond.instanceMethod y_Jq_releaseOfFront ∈ tbG := tbG_in (k := 415) (by decide +kernel) rfl
theorem n_417 : Cond.methodLinkNest "CeilingScheduler" 204 y_Hi_pass "CeilingScheduler" ∈ nwL := nwL_in (k := 417) (by decide +kernel) rfl
theorem t_419 : Cond.instanceMethod y_Hi_pass ∈ tbG := tbG_in (k := 419) (by decide +kernel) rfl
theorem t_421 : Cond.methodLink "CeilingScheduler$History" 25 y_Ma_floorMod ∈ tbG := tbG_in (k := 421) (by decide +kernel) rfl
theorem t_422 : Cond.static y_Ma_floorMod ∈ tbG := tbG_in (k := 422) (by decide +kernel) rfl
theorem n_424 : Cond.methodLinkNest "CeilingScheduler" 207 y_Ta_doUnit "CeilingScheduler" ∈ nwL := nwL_in (k := 424) (by decide +kernel) rfl
theorem t_426 : Cond.instanceMethod y_Ta_doUnit ∈ tbG := tbG_in (k := 426) (by decide +kernel) rfl
theorem n_428 : Cond.methodLinkNest "CeilingScheduler$Task" 52 y_Jq_finishFront "CeilingScheduler" ∈ nwL := nwL_in (k := 428) (by decide +kernel) rfl
theorem t_430 : Cond.instanceMethod y_Jq_finishFront ∈ tbG := tbG_in (k := 430) (by decide +kernel) rfl
theorem t_432 : Cond.methodLink "CeilingScheduler$JobQueue" 28 y_Jq_releaseOfFront ∈ tbG := tbG_in (k := 432) (by decide +kernel) rfl
theorem t_433 : Cond.methodLink "CeilingScheduler$JobQueue" 35 y_Ma_max ∈ tbG := tbG_in (k := 433) (by decide +kernel) rfl
theorem t_434 : Cond.methodLink "CeilingSchedulerLaw" 42 y_Cs_ran ∈ tbG := tbG_in (k := 434) (by decide +kernel) rfl
theorem t_435 : Cond.instanceMethod y_Cs_ran ∈ tbG := tbG_in (k := 435) (by decide +kernel) rfl
theorem t_436 : Cond.selects "CeilingScheduler" y_Cs_ran y_Cs_ran ∈ tbG := tbG_in (k := 436) (by decide +kernel) rfl
theorem t_438 : Cond.methodLink "CeilingSchedulerLaw" 46 y_Cs_tell ∈ tbG := tbG_in (k := 438) (by decide +kernel) rfl
theorem t_439 : Cond.instanceMethod y_Cs_tell ∈ tbG := tbG_in (k := 439) (by decide +kernel) rfl
theorem t_440 : Cond.selects "CeilingScheduler" y_Cs_tell y_Cs_tell ∈ tbG := tbG_in (k := 440) (by decide +kernel) rfl
theorem n_442 : Cond.methodLinkNest "CeilingScheduler" 129 y_Jq_lateAt "CeilingScheduler" ∈ nwL := nwL_in (k := 442) (by decide +kernel) rfl
theorem t_444 : Cond.instanceMethod y_Jq_lateAt ∈ tbG := tbG_in (k := 444) (by decide +kernel) rfl
theorem t_446 : Cond.methodLink "CeilingSchedulerLaw" 50 y_Cs_holder ∈ tbG := tbG_in (k := 446) (by decide +kernel) rfl
theorem t_447 : Cond.instanceMethod y_Cs_holder ∈ tbG := tbG_in (k := 447) (by decide +kernel) rfl
theorem t_448 : Cond.selects "CeilingScheduler" y_Cs_holder y_Cs_holder ∈ tbG := tbG_in (k := 448) (by decide +kernel) rfl
theorem t_450 : Cond.methodLink "CeilingSchedulerLaw" 62 y_Cs_timeline ∈ tbG := tbG_in (k := 450) (by decide +kernel) rfl
theorem t_451 : Cond.instanceMethod y_Cs_timeline ∈ tbG := tbG_in (k := 451) (by decide +kernel) rfl
theorem t_452 : Cond.selects "CeilingScheduler" y_Cs_timeline y_Cs_timeline ∈ tbG := tbG_in (k := 452) (by decide +kernel) rfl
theorem n_454 : Cond.methodLinkNest "CeilingScheduler" 150 y_Hi_holdsUnit "CeilingScheduler" ∈ nwL := nwL_in (k := 454) (by decide +kernel) rfl
theorem t_456 : Cond.instanceMethod y_Hi_holdsUnit ∈ tbG := tbG_in (k := 456) (by decide +kernel) rfl
theorem n_458 : Cond.methodLinkNest "CeilingScheduler" 153 y_Hi_taskOfUnit "CeilingScheduler" ∈ nwL := nwL_in (k := 458) (by decide +kernel) rfl
theorem t_460 : Cond.instanceMethod y_Hi_taskOfUnit ∈ tbG := tbG_in (k := 460) (by decide +kernel) rfl
theorem t_462 : Cond.methodLink "CeilingSchedulerLaw" 66 y_Cs_count ∈ tbG := tbG_in (k := 462) (by decide +kernel) rfl
theorem t_463 : Cond.instanceMethod y_Cs_count ∈ tbG := tbG_in (k := 463) (by decide +kernel) rfl
theorem t_464 : Cond.selects "CeilingScheduler" y_Cs_count y_Cs_count ∈ tbG := tbG_in (k := 464) (by decide +kernel) rfl
theorem t_466 : Cond.methodLink "CeilingScheduler" 162 y_Cs_jobsNotDone ∈ tbG := tbG_in (k := 466) (by decide +kernel) rfl
theorem t_468 : Cond.instanceMethod y_Cs_jobsNotDone ∈ tbG := tbG_in (k := 468) (by decide +kernel) rfl
theorem t_470 : Cond.methodLink "CeilingScheduler" 165 y_Cs_allBoundsMeetDeadlines ∈ tbG := tbG_in (k := 470) (by decide +kernel) rfl
theorem t_472 : Cond.instanceMethod y_Cs_allBoundsMeetDeadlines ∈ tbG := tbG_in (k := 472) (by decide +kernel) rfl
theorem t_474 : Cond.methodLink "CeilingScheduler" 171 y_Cs_boundOf ∈ tbG := tbG_in (k := 474) (by decide +kernel) rfl
theorem t_476 : Cond.instanceMethod y_Cs_boundOf ∈ tbG := tbG_in (k := 476) (by decide +kernel) rfl
theorem t_478 : Cond.methodLink "CeilingScheduler" 168 y_Cs_blockingOf ∈ tbG := tbG_in (k := 478) (by decide +kernel) rfl
theorem t_480 : Cond.instanceMethod y_Cs_blockingOf ∈ tbG := tbG_in (k := 480) (by decide +kernel) rfl
theorem t_482 : Cond.methodLink "CeilingScheduler" 174 y_Cs_longestSectionFrom ∈ tbG := tbG_in (k := 482) (by decide +kernel) rfl
theorem t_484 : Cond.instanceMethod y_Cs_longestSectionFrom ∈ tbG := tbG_in (k := 484) (by decide +kernel) rfl
theorem t_486 : Cond.methodLink "CeilingScheduler" 189 y_Cs_timeOfOthers ∈ tbG := tbG_in (k := 486) (by decide +kernel) rfl
theorem t_488 : Cond.instanceMethod y_Cs_timeOfOthers ∈ tbG := tbG_in (k := 488) (by decide +kernel) rfl
theorem n_490 : Cond.methodLinkNest "CeilingScheduler" 192 y_Ta_mostReleasesIn "CeilingScheduler" ∈ nwL := nwL_in (k := 490) (by decide +kernel) rfl
theorem t_492 : Cond.instanceMethod y_Ta_mostReleasesIn ∈ tbG := tbG_in (k := 492) (by decide +kernel) rfl
theorem t_494 : Cond.methodLink "CeilingSchedulerLaw" 54 y_Cs_blocking ∈ tbG := tbG_in (k := 494) (by decide +kernel) rfl
theorem t_495 : Cond.instanceMethod y_Cs_blocking ∈ tbG := tbG_in (k := 495) (by decide +kernel) rfl
theorem t_496 : Cond.selects "CeilingScheduler" y_Cs_blocking y_Cs_blocking ∈ tbG := tbG_in (k := 496) (by decide +kernel) rfl
theorem t_498 : Cond.methodLink "CeilingSchedulerLaw" 58 y_Cs_bound ∈ tbG := tbG_in (k := 498) (by decide +kernel) rfl
theorem t_499 : Cond.instanceMethod y_Cs_bound ∈ tbG := tbG_in (k := 499) (by decide +kernel) rfl
theorem t_500 : Cond.selects "CeilingScheduler" y_Cs_bound y_Cs_bound ∈ tbG := tbG_in (k := 500) (by decide +kernel) rfl
theorem t_502 : Cond.classLink "CeilingSchedulerLaw" 10 "CeilingSchedulerModel" ∈ tbG := tbG_in (k := 502) (by decide +kernel) rfl
theorem t_503 : Cond.instantiable "CeilingSchedulerModel" 26 ∈ tbG := tbG_in (k := 503) (by decide +kernel) rfl
theorem t_504 : Cond.methodLink "CeilingSchedulerLaw" 12 y_Mo_init ∈ tbG := tbG_in (k := 504) (by decide +kernel) rfl
theorem t_505 : Cond.instanceMethod y_Mo_init ∈ tbG := tbG_in (k := 505) (by decide +kernel) rfl
theorem t_507 : Cond.methodLink "CeilingSchedulerModel" 1 y_Oj_init ∈ tbG := tbG_in (k := 507) (by decide +kernel) rfl
theorem t_508 : Cond.fieldLink "CeilingSchedulerModel" 7 "CeilingSchedulerModel" "tasks" "I" ∈ tbG := tbG_in (k := 508) (by decide +kernel) rfl
theorem t_509 : Cond.fieldLink "CeilingSchedulerModel" 13 "CeilingSchedulerModel" "time" "I" ∈ tbG := tbG_in (k := 509) (by decide +kernel) rfl
theorem t_510 : Cond.fieldLink "CeilingSchedulerModel" 16 "CeilingSchedulerModel" "idle" "I" ∈ tbG := tbG_in (k := 510) (by decide +kernel) rfl
theorem t_511 : Cond.fieldLink "CeilingSchedulerModel" 19 "CeilingSchedulerModel" "switches" "I" ∈ tbG := tbG_in (k := 511) (by decide +kernel) rfl
theorem t_512 : Cond.fieldLink "CeilingSchedulerModel" 22 "CeilingSchedulerModel" "last" "I" ∈ tbG := tbG_in (k := 512) (by decide +kernel) rfl
theorem t_513 : Cond.fieldLink "CeilingSchedulerModel" 25 "CeilingSchedulerModel" "busy" "I" ∈ tbG := tbG_in (k := 513) (by decide +kernel) rfl
theorem t_514 : Cond.fieldLink "CeilingSchedulerModel" 28 "CeilingSchedulerModel" "started" "Z" ∈ tbG := tbG_in (k := 514) (by decide +kernel) rfl
theorem t_515 : Cond.fieldLink "CeilingSchedulerModel" 32 "CeilingSchedulerModel" "period" "[I" ∈ tbG := tbG_in (k := 515) (by decide +kernel) rfl
theorem t_516 : Cond.fieldLink "CeilingSchedulerModel" 36 "CeilingSchedulerModel" "cost" "[I" ∈ tbG := tbG_in (k := 516) (by decide +kernel) rfl
theorem t_517 : Cond.fieldLink "CeilingSchedulerModel" 39 "CeilingSchedulerModel" "deadline" "[I" ∈ tbG := tbG_in (k := 517) (by decide +kernel) rfl
theorem t_518 : Cond.fieldLink "CeilingSchedulerModel" 42 "CeilingSchedulerModel" "priority" "[I" ∈ tbG := tbG_in (k := 518) (by decide +kernel) rfl
theorem t_519 : Cond.fieldLink "CeilingSchedulerModel" 45 "CeilingSchedulerModel" "offset" "[I" ∈ tbG := tbG_in (k := 519) (by decide +kernel) rfl
theorem t_520 : Cond.fieldLink "CeilingSchedulerModel" 48 "CeilingSchedulerModel" "ceilings" "[I" ∈ tbG := tbG_in (k := 520) (by decide +kernel) rfl
theorem t_521 : Cond.fieldLink "CeilingSchedulerModel" 51 "CeilingSchedulerModel" "sections" "[I" ∈ tbG := tbG_in (k := 521) (by decide +kernel) rfl
theorem t_522 : Cond.fieldLink "CeilingSchedulerModel" 54 "CeilingSchedulerModel" "on" "[I" ∈ tbG := tbG_in (k := 522) (by decide +kernel) rfl
theorem t_523 : Cond.fieldLink "CeilingSchedulerModel" 57 "CeilingSchedulerModel" "from" "[I" ∈ tbG := tbG_in (k := 523) (by decide +kernel) rfl
theorem t_524 : Cond.fieldLink "CeilingSchedulerModel" 60 "CeilingSchedulerModel" "long1" "[I" ∈ tbG := tbG_in (k := 524) (by decide +kernel) rfl
theorem t_525 : Cond.fieldLink "CeilingSchedulerModel" 63 "CeilingSchedulerModel" "waiting" "[I" ∈ tbG := tbG_in (k := 525) (by decide +kernel) rfl
theorem t_526 : Cond.fieldLink "CeilingSchedulerModel" 66 "CeilingSchedulerModel" "release" "[I" ∈ tbG := tbG_in (k := 526) (by decide +kernel) rfl
theorem t_527 : Cond.fieldLink "CeilingSchedulerModel" 69 "CeilingSchedulerModel" "units" "[I" ∈ tbG := tbG_in (k := 527) (by decide +kernel) rfl
theorem t_528 : Cond.fieldLink "CeilingSchedulerModel" 72 "CeilingSchedulerModel" "released" "[I" ∈ tbG := tbG_in (k := 528) (by decide +kernel) rfl
theorem t_529 : Cond.fieldLink "CeilingSchedulerModel" 75 "CeilingSchedulerModel" "done" "[I" ∈ tbG := tbG_in (k := 529) (by decide +kernel) rfl
theorem t_530 : Cond.fieldLink "CeilingSchedulerModel" 78 "CeilingSchedulerModel" "late" "[I" ∈ tbG := tbG_in (k := 530) (by decide +kernel) rfl
theorem t_531 : Cond.fieldLink "CeilingSchedulerModel" 81 "CeilingSchedulerModel" "worst" "[I" ∈ tbG := tbG_in (k := 531) (by decide +kernel) rfl
theorem t_532 : Cond.fieldLink "CeilingSchedulerModel" 84 "CeilingSchedulerModel" "newest" "[I" ∈ tbG := tbG_in (k := 532) (by decide +kernel) rfl
theorem t_533 : Cond.fieldLink "CeilingSchedulerModel" 87 "CeilingSchedulerModel" "line" "[I" ∈ tbG := tbG_in (k := 533) (by decide +kernel) rfl
theorem t_587 : Cond.methodLink "CeilingSchedulerLaw" 17 y_Mo_define ∈ tbG := tbG_in (k := 587) (by decide +kernel) rfl
theorem t_588 : Cond.instanceMethod y_Mo_define ∈ tbG := tbG_in (k := 588) (by decide +kernel) rfl
theorem t_589 : Cond.selects "CeilingSchedulerModel" y_Mo_define y_Mo_define ∈ tbG := tbG_in (k := 589) (by decide +kernel) rfl
theorem t_591 : Cond.methodLink "CeilingSchedulerModel" 90 y_Mo_out ∈ tbG := tbG_in (k := 591) (by decide +kernel) rfl
theorem t_593 : Cond.instanceMethod y_Mo_out ∈ tbG := tbG_in (k := 593) (by decide +kernel) rfl
theorem t_595 : Cond.methodLink "CeilingSchedulerLaw" 22 y_Mo_ceiling ∈ tbG := tbG_in (k := 595) (by decide +kernel) rfl
theorem t_596 : Cond.instanceMethod y_Mo_ceiling ∈ tbG := tbG_in (k := 596) (by decide +kernel) rfl
theorem t_597 : Cond.selects "CeilingSchedulerModel" y_Mo_ceiling y_Mo_ceiling ∈ tbG := tbG_in (k := 597) (by decide +kernel) rfl
theorem t_599 : Cond.methodLink "CeilingSchedulerLaw" 27 y_Mo_section ∈ tbG := tbG_in (k := 599) (by decide +kernel) rfl
theorem t_600 : Cond.instanceMethod y_Mo_section ∈ tbG := tbG_in (k := 600) (by decide +kernel) rfl
theorem t_601 : Cond.selects "CeilingSchedulerModel" y_Mo_section y_Mo_section ∈ tbG := tbG_in (k := 601) (by decide +kernel) rfl
theorem t_603 : Cond.methodLink "CeilingSchedulerModel" 94 y_Mo_no ∈ tbG := tbG_in (k := 603) (by decide +kernel) rfl
theorem t_605 : Cond.instanceMethod y_Mo_no ∈ tbG := tbG_in (k := 605) (by decide +kernel) rfl
theorem t_607 : Cond.methodLink "CeilingSchedulerModel" 98 y_Mo_sectionAt ∈ tbG := tbG_in (k := 607) (by decide +kernel) rfl
theorem t_609 : Cond.instanceMethod y_Mo_sectionAt ∈ tbG := tbG_in (k := 609) (by decide +kernel) rfl
theorem t_611 : Cond.methodLink "CeilingSchedulerLaw" 32 y_Mo_start ∈ tbG := tbG_in (k := 611) (by decide +kernel) rfl
theorem t_612 : Cond.instanceMethod y_Mo_start ∈ tbG := tbG_in (k := 612) (by decide +kernel) rfl
theorem t_613 : Cond.selects "CeilingSchedulerModel" y_Mo_start y_Mo_start ∈ tbG := tbG_in (k := 613) (by decide +kernel) rfl
theorem t_615 : Cond.methodLink "CeilingSchedulerLaw" 37 y_Mo_event ∈ tbG := tbG_in (k := 615) (by decide +kernel) rfl
theorem t_616 : Cond.instanceMethod y_Mo_event ∈ tbG := tbG_in (k := 616) (by decide +kernel) rfl
theorem t_617 : Cond.selects "CeilingSchedulerModel" y_Mo_event y_Mo_event ∈ tbG := tbG_in (k := 617) (by decide +kernel) rfl
theorem t_619 : Cond.methodLink "CeilingSchedulerModel" 102 y_Mo_letGo ∈ tbG := tbG_in (k := 619) (by decide +kernel) rfl
theorem t_621 : Cond.instanceMethod y_Mo_letGo ∈ tbG := tbG_in (k := 621) (by decide +kernel) rfl
theorem t_623 : Cond.methodLink "CeilingSchedulerLaw" 41 y_Mo_tick ∈ tbG := tbG_in (k := 623) (by decide +kernel) rfl
theorem t_624 : Cond.instanceMethod y_Mo_tick ∈ tbG := tbG_in (k := 624) (by decide +kernel) rfl
theorem t_625 : Cond.selects "CeilingSchedulerModel" y_Mo_tick y_Mo_tick ∈ tbG := tbG_in (k := 625) (by decide +kernel) rfl
theorem t_627 : Cond.methodLink "CeilingSchedulerModel" 123 y_Mo_unit ∈ tbG := tbG_in (k := 627) (by decide +kernel) rfl
theorem t_629 : Cond.instanceMethod y_Mo_unit ∈ tbG := tbG_in (k := 629) (by decide +kernel) rfl
theorem t_631 : Cond.methodLink "CeilingSchedulerModel" 113 y_Mo_comes ∈ tbG := tbG_in (k := 631) (by decide +kernel) rfl
theorem t_633 : Cond.instanceMethod y_Mo_comes ∈ tbG := tbG_in (k := 633) (by decide +kernel) rfl
theorem t_635 : Cond.methodLink "CeilingSchedulerModel" 116 y_Mo_goesBefore ∈ tbG := tbG_in (k := 635) (by decide +kernel) rfl
theorem t_637 : Cond.instanceMethod y_Mo_goesBefore ∈ tbG := tbG_in (k := 637) (by decide +kernel) rfl
theorem t_639 : Cond.methodLink "CeilingSchedulerModel" 110 y_Mo_active ∈ tbG := tbG_in (k := 639) (by decide +kernel) rfl
theorem t_641 : Cond.instanceMethod y_Mo_active ∈ tbG := tbG_in (k := 641) (by decide +kernel) rfl
theorem t_643 : Cond.methodLink "CeilingSchedulerModel" 106 y_Mo_held ∈ tbG := tbG_in (k := 643) (by decide +kernel) rfl
theorem t_645 : Cond.instanceMethod y_Mo_held ∈ tbG := tbG_in (k := 645) (by decide +kernel) rfl
theorem t_647 : Cond.methodLink "CeilingSchedulerModel" 120 y_Mo_work ∈ tbG := tbG_in (k := 647) (by decide +kernel) rfl
theorem t_649 : Cond.instanceMethod y_Mo_work ∈ tbG := tbG_in (k := 649) (by decide +kernel) rfl
theorem t_651 : Cond.methodLink "CeilingSchedulerLaw" 45 y_Mo_ran ∈ tbG := tbG_in (k := 651) (by decide +kernel) rfl
theorem t_652 : Cond.instanceMethod y_Mo_ran ∈ tbG := tbG_in (k := 652) (by decide +kernel) rfl
theorem t_653 : Cond.selects "CeilingSchedulerModel" y_Mo_ran y_Mo_ran ∈ tbG := tbG_in (k := 653) (by decide +kernel) rfl
theorem t_655 : Cond.methodLink "CeilingSchedulerLaw" 49 y_Mo_tell ∈ tbG := tbG_in (k := 655) (by decide +kernel) rfl
theorem t_656 : Cond.instanceMethod y_Mo_tell ∈ tbG := tbG_in (k := 656) (by decide +kernel) rfl
theorem t_657 : Cond.selects "CeilingSchedulerModel" y_Mo_tell y_Mo_tell ∈ tbG := tbG_in (k := 657) (by decide +kernel) rfl
theorem t_659 : Cond.methodLink "CeilingSchedulerLaw" 53 y_Mo_holder ∈ tbG := tbG_in (k := 659) (by decide +kernel) rfl
theorem t_660 : Cond.instanceMethod y_Mo_holder ∈ tbG := tbG_in (k := 660) (by decide +kernel) rfl
theorem t_661 : Cond.selects "CeilingSchedulerModel" y_Mo_holder y_Mo_holder ∈ tbG := tbG_in (k := 661) (by decide +kernel) rfl
theorem t_663 : Cond.methodLink "CeilingSchedulerLaw" 57 y_Mo_blocking ∈ tbG := tbG_in (k := 663) (by decide +kernel) rfl
theorem t_664 : Cond.instanceMethod y_Mo_blocking ∈ tbG := tbG_in (k := 664) (by decide +kernel) rfl
theorem t_665 : Cond.selects "CeilingSchedulerModel" y_Mo_blocking y_Mo_blocking ∈ tbG := tbG_in (k := 665) (by decide +kernel) rfl
theorem t_667 : Cond.methodLink "CeilingSchedulerLaw" 61 y_Mo_bound ∈ tbG := tbG_in (k := 667) (by decide +kernel) rfl
theorem t_668 : Cond.instanceMethod y_Mo_bound ∈ tbG := tbG_in (k := 668) (by decide +kernel) rfl
theorem t_669 : Cond.selects "CeilingSchedulerModel" y_Mo_bound y_Mo_bound ∈ tbG := tbG_in (k := 669) (by decide +kernel) rfl
theorem t_671 : Cond.methodLink "CeilingSchedulerModel" 127 y_Mo_blocking ∈ tbG := tbG_in (k := 671) (by decide +kernel) rfl
theorem t_672 : Cond.methodLink "CeilingSchedulerLaw" 65 y_Mo_timeline ∈ tbG := tbG_in (k := 672) (by decide +kernel) rfl
theorem t_673 : Cond.instanceMethod y_Mo_timeline ∈ tbG := tbG_in (k := 673) (by decide +kernel) rfl
theorem t_674 : Cond.selects "CeilingSchedulerModel" y_Mo_timeline y_Mo_timeline ∈ tbG := tbG_in (k := 674) (by decide +kernel) rfl
theorem t_676 : Cond.methodLink "CeilingSchedulerLaw" 69 y_Mo_count ∈ tbG := tbG_in (k := 676) (by decide +kernel) rfl
theorem t_677 : Cond.instanceMethod y_Mo_count ∈ tbG := tbG_in (k := 677) (by decide +kernel) rfl
theorem t_678 : Cond.selects "CeilingSchedulerModel" y_Mo_count y_Mo_count ∈ tbG := tbG_in (k := 678) (by decide +kernel) rfl
theorem t_680 : Cond.methodLink "CeilingSchedulerModel" 130 y_Mo_bound ∈ tbG := tbG_in (k := 680) (by decide +kernel) rfl
theorem n_681 : Cond.castable "CeilingScheduler$Task" "CeilingScheduler$Task" ∈ nwL := nwL_in (k := 681) (by decide +kernel) rfl
theorem n_682 : Cond.castable "CeilingScheduler$Section" "CeilingScheduler$Section" ∈ nwL := nwL_in (k := 682) (by decide +kernel) rfl
theorem t_684 : Cond.selects "[Ljava/lang/Object;" ⟨"java/lang/Object", "getClass", "()Ljava/lang/Class;"⟩ ⟨"java/lang/Object", "getClass", "()Ljava/lang/Class;"⟩ ∈ tbG := tbG_in (k := 684) (by decide +kernel) rfl
theorem n_686 : Cond.castable "CeilingScheduler" "java/lang/Object" ∈ nwL := nwL_in (k := 686) (by decide +kernel) rfl
theorem n_687 : Cond.castable "CeilingScheduler$History" "java/lang/Object" ∈ nwL := nwL_in (k := 687) (by decide +kernel) rfl
theorem n_688 : Cond.castable "CeilingSchedulerModel" "java/lang/Object" ∈ nwL := nwL_in (k := 688) (by decide +kernel) rfl
theorem n_689 : Cond.castable "CeilingScheduler$Task" "java/lang/Object" ∈ nwL := nwL_in (k := 689) (by decide +kernel) rfl
theorem n_690 : Cond.castable "CeilingScheduler$JobQueue" "java/lang/Object" ∈ nwL := nwL_in (k := 690) (by decide +kernel) rfl
theorem n_691 : Cond.castable "CeilingScheduler$Section" "java/lang/Object" ∈ nwL := nwL_in (k := 691) (by decide +kernel) rfl
