def rHi : String := "CeilingScheduler$History"
def rJq : String := "CeilingScheduler$JobQueue"
def rSe : String := "CeilingScheduler$Section"
def rTa : String := "CeilingScheduler$Task"
def rCs : String := "CeilingScheduler"
def rMo : String := "CeilingSchedulerModel"
def rAL : String := "java/util/ArrayList"
def rAb : String := "java/util/AbstractList"
def rAc : String := "java/util/AbstractCollection"
def rOb : String := "java/util/Objects"
def rPc : String := "jdk/internal/util/Preconditions"
def rMa : String := "java/lang/Math"
def rLw : String := "CeilingSchedulerLaw"
def rOj : String := "java/lang/Object"
def fHi : u_T := fun k => match k with
  | 0 => ("CeilingScheduler$History", "taskOf", "[I", true)
  | 1 => ("CeilingScheduler$History", "time", "I", false)
  | 2 => ("CeilingScheduler$History", "idleUnits", "I", false)
  | 3 => ("CeilingScheduler$History", "switches", "I", false)
  | 4 => ("CeilingScheduler$History", "lastRan", "I", false)
  | _ => ("CeilingScheduler$History", "lastNotIdle", "I", false)
def yHi_t : Nat → FieldType := fun k => match k with
  | 0 => .array .int
  | 1 => .int
  | 2 => .int
  | 3 => .int
  | 4 => .int
  | _ => .int
theorem yHi_nm : ∀ a, a < 6 → ∀ b, b < 6 → a ≠ b → (fHi a).2.1 ≠ (fHi b).2.1 := by decide +kernel
theorem yHi_ok : ∀ k, k < 6 → parseFieldDescriptor (fHi k).2.2.1 = some (yHi_t k) := by decide +kernel
def fJq : u_T := fun k => match k with
  | 0 => ("CeilingScheduler$JobQueue", "releases", "[I", true)
  | 1 => ("CeilingScheduler$JobQueue", "front", "I", false)
  | 2 => ("CeilingScheduler$JobQueue", "notDone", "I", false)
  | 3 => ("CeilingScheduler$JobQueue", "unitsOfFront", "I", false)
  | 4 => ("CeilingScheduler$JobQueue", "released", "I", false)
  | 5 => ("CeilingScheduler$JobQueue", "lastRelease", "I", false)
  | 6 => ("CeilingScheduler$JobQueue", "doneLate", "I", false)
  | _ => ("CeilingScheduler$JobQueue", "greatestResponse", "I", false)
def yJq_t : Nat → FieldType := fun k => match k with
  | 0 => .array .int
  | 1 => .int
  | 2 => .int
  | 3 => .int
  | 4 => .int
  | 5 => .int
  | 6 => .int
  | _ => .int
theorem yJq_nm : ∀ a, a < 8 → ∀ b, b < 8 → a ≠ b → (fJq a).2.1 ≠ (fJq b).2.1 := by decide +kernel
theorem yJq_ok : ∀ k, k < 8 → parseFieldDescriptor (fJq k).2.2.1 = some (yJq_t k) := by decide +kernel
def fSe : u_T := fun k => match k with
  | 0 => ("CeilingScheduler$Section", "object", "I", true)
  | 1 => ("CeilingScheduler$Section", "first", "I", true)
  | _ => ("CeilingScheduler$Section", "length", "I", true)
def ySe_t : Nat → FieldType := fun k => match k with
  | 0 => .int
  | 1 => .int
  | _ => .int
theorem ySe_nm : ∀ a, a < 3 → ∀ b, b < 3 → a ≠ b → (fSe a).2.1 ≠ (fSe b).2.1 := by decide +kernel
theorem ySe_ok : ∀ k, k < 3 → parseFieldDescriptor (fSe k).2.2.1 = some (ySe_t k) := by decide +kernel
def fTa : u_T := fun k => match k with
  | 0 => ("CeilingScheduler$Task", "period", "I", true)
  | 1 => ("CeilingScheduler$Task", "cost", "I", true)
  | 2 => ("CeilingScheduler$Task", "deadline", "I", true)
  | 3 => ("CeilingScheduler$Task", "priority", "I", true)
  | 4 => ("CeilingScheduler$Task", "sporadic", "Z", true)
  | 5 => ("CeilingScheduler$Task", "sections", "Ljava/util/ArrayList;", true)
  | 6 => ("CeilingScheduler$Task", "jobs", "LCeilingScheduler$JobQueue;", true)
  | _ => ("CeilingScheduler$Task", "nextRelease", "I", false)
def yTa_t : Nat → FieldType := fun k => match k with
  | 0 => .int
  | 1 => .int
  | 2 => .int
  | 3 => .int
  | 4 => .boolean
  | 5 => .object "java/util/ArrayList"
  | 6 => .object "CeilingScheduler$JobQueue"
  | _ => .int
theorem yTa_nm : ∀ a, a < 8 → ∀ b, b < 8 → a ≠ b → (fTa a).2.1 ≠ (fTa b).2.1 := by decide +kernel
theorem yTa_ok : ∀ k, k < 8 → parseFieldDescriptor (fTa k).2.2.1 = some (yTa_t k) := by decide +kernel
def fCs : u_T := fun k => match k with
  | 0 => ("CeilingScheduler", "tasks", "Ljava/util/ArrayList;", true)
  | 1 => ("CeilingScheduler", "ceilings", "[I", true)
  | 2 => ("CeilingScheduler", "history", "LCeilingScheduler$History;", true)
  | _ => ("CeilingScheduler", "started", "Z", false)
def yCs_t : Nat → FieldType := fun k => match k with
  | 0 => .object "java/util/ArrayList"
  | 1 => .array .int
  | 2 => .object "CeilingScheduler$History"
  | _ => .boolean
theorem yCs_nm : ∀ a, a < 4 → ∀ b, b < 4 → a ≠ b → (fCs a).2.1 ≠ (fCs b).2.1 := by decide +kernel
theorem yCs_ok : ∀ k, k < 4 → parseFieldDescriptor (fCs k).2.2.1 = some (yCs_t k) := by decide +kernel
def fMo : u_T := fun k => match k with
  | 0 => ("CeilingSchedulerModel", "tasks", "I", false)
  | 1 => ("CeilingSchedulerModel", "time", "I", false)
  | 2 => ("CeilingSchedulerModel", "idle", "I", false)
  | 3 => ("CeilingSchedulerModel", "switches", "I", false)
  | 4 => ("CeilingSchedulerModel", "last", "I", false)
  | 5 => ("CeilingSchedulerModel", "busy", "I", false)
  | 6 => ("CeilingSchedulerModel", "started", "Z", false)
  | 7 => ("CeilingSchedulerModel", "period", "[I", true)
  | 8 => ("CeilingSchedulerModel", "cost", "[I", true)
  | 9 => ("CeilingSchedulerModel", "deadline", "[I", true)
  | 10 => ("CeilingSchedulerModel", "priority", "[I", true)
  | 11 => ("CeilingSchedulerModel", "offset", "[I", true)
  | 12 => ("CeilingSchedulerModel", "ceilings", "[I", true)
  | 13 => ("CeilingSchedulerModel", "sections", "[I", true)
  | 14 => ("CeilingSchedulerModel", "on", "[I", true)
  | 15 => ("CeilingSchedulerModel", "from", "[I", true)
  | 16 => ("CeilingSchedulerModel", "long1", "[I", true)
  | 17 => ("CeilingSchedulerModel", "waiting", "[I", true)
  | 18 => ("CeilingSchedulerModel", "release", "[I", true)
  | 19 => ("CeilingSchedulerModel", "units", "[I", true)
  | 20 => ("CeilingSchedulerModel", "released", "[I", true)
  | 21 => ("CeilingSchedulerModel", "done", "[I", true)
  | 22 => ("CeilingSchedulerModel", "late", "[I", true)
  | 23 => ("CeilingSchedulerModel", "worst", "[I", true)
  | 24 => ("CeilingSchedulerModel", "newest", "[I", true)
  | _ => ("CeilingSchedulerModel", "line", "[I", true)
def yMo_t : Nat → FieldType := fun k => match k with
  | 0 => .int
  | 1 => .int
  | 2 => .int
  | 3 => .int
  | 4 => .int
  | 5 => .int
  | 6 => .boolean
  | 7 => .array .int
  | 8 => .array .int
  | 9 => .array .int
  | 10 => .array .int
  | 11 => .array .int
  | 12 => .array .int
  | 13 => .array .int
  | 14 => .array .int
  | 15 => .array .int
  | 16 => .array .int
  | 17 => .array .int
  | 18 => .array .int
  | 19 => .array .int
  | 20 => .array .int
  | 21 => .array .int
  | 22 => .array .int
  | 23 => .array .int
  | 24 => .array .int
  | _ => .array .int
theorem yMo_nm : ∀ a, a < 26 → ∀ b, b < 26 → a ≠ b → (fMo a).2.1 ≠ (fMo b).2.1 := by decide +kernel
theorem yMo_ok : ∀ k, k < 26 → parseFieldDescriptor (fMo k).2.2.1 = some (yMo_t k) := by decide +kernel
def fAL : u_T := fun k => match k with
  | 0 => ("java/util/AbstractList", "modCount", "I", false)
  | 1 => ("java/util/ArrayList", "elementData", "[Ljava/lang/Object;", false)
  | _ => ("java/util/ArrayList", "size", "I", false)
def yAL_t : Nat → FieldType := fun k => match k with
  | 0 => .int
  | 1 => .array (.object "java/lang/Object")
  | _ => .int
theorem yAL_nm : ∀ a, a < 3 → ∀ b, b < 3 → a ≠ b → (fAL a).2.1 ≠ (fAL b).2.1 := by decide +kernel
theorem yAL_ok : ∀ k, k < 3 → parseFieldDescriptor (fAL k).2.2.1 = some (yAL_t k) := by decide +kernel
abbrev vwCl : List vw_C := [(rHi, fHi, 6), (rJq, fJq, 8), (rSe, fSe, 3), (rTa, fTa, 8), (rCs, fCs, 4), (rMo, fMo, 26), (rAL, fAL, 3)]
abbrev b_Cs_init : ByteArray := prog_1_method_1_code
def y_Cs_init : MethodName := ⟨rCs, "<init>", "()V"⟩
abbrev b_Oj_init : ByteArray := object_method_1_code
def y_Oj_init : MethodName := ⟨rOj, "<init>", "()V"⟩
abbrev b_AL_init : ByteArray := prog_15_method_2_code
def y_AL_init : MethodName := ⟨rAL, "<init>", "()V"⟩
abbrev b_Ab_init : ByteArray := prog_14_method_1_code
def y_Ab_init : MethodName := ⟨rAb, "<init>", "()V"⟩
abbrev b_Ac_init : ByteArray := prog_13_method_1_code
def y_Ac_init : MethodName := ⟨rAc, "<init>", "()V"⟩
abbrev b_Hi_init : ByteArray := prog_2_method_1_code
def y_Hi_init : MethodName := ⟨rHi, "<init>", "()V"⟩
abbrev b_Cs_define : ByteArray := prog_1_method_2_code
def y_Cs_define : MethodName := ⟨rCs, "define", "(IIIII)I"⟩
abbrev b_Cs_isOutside : ByteArray := prog_1_method_25_code
def y_Cs_isOutside : MethodName := ⟨rCs, "isOutside", "(III)Z"⟩
abbrev b_AL_size : ByteArray := prog_15_method_8_code
def y_AL_size : MethodName := ⟨rAL, "size", "()I"⟩
abbrev b_Ta_init : ByteArray := prog_5_method_1_code
def y_Ta_init : MethodName := ⟨rTa, "<init>", "(IIIII)V"⟩
abbrev b_Jq_init : ByteArray := prog_3_method_1_code
def y_Jq_init : MethodName := ⟨rJq, "<init>", "()V"⟩
abbrev b_AL_add : ByteArray := prog_15_method_25_code
def y_AL_add : MethodName := ⟨rAL, "add", "(Ljava/lang/Object;)Z"⟩
abbrev b_AL_add_Ljaval : ByteArray := prog_15_method_24_code
def y_AL_add_Ljaval : MethodName := ⟨rAL, "add", "(Ljava/lang/Object;[Ljava/lang/Object;I)V"⟩
abbrev b_AL_grow : ByteArray := prog_15_method_7_code
def y_AL_grow : MethodName := ⟨rAL, "grow", "()[Ljava/lang/Object;"⟩
abbrev b_AL_grow_ILjava : ByteArray := prog_15_method_6_code
def y_AL_grow_ILjava : MethodName := ⟨rAL, "grow", "(I)[Ljava/lang/Object;"⟩
abbrev b_Ma_max : ByteArray := prog_11_method_65_code
def y_Ma_max : MethodName := ⟨rMa, "max", "(II)I"⟩
abbrev b_Ma_min : ByteArray := prog_11_method_69_code
def y_Ma_min : MethodName := ⟨rMa, "min", "(II)I"⟩
abbrev b_Cs_ceiling : ByteArray := prog_1_method_3_code
def y_Cs_ceiling : MethodName := ⟨rCs, "ceiling", "(II)I"⟩
abbrev b_Cs_isNoObject : ByteArray := prog_1_method_26_code
def y_Cs_isNoObject : MethodName := ⟨rCs, "isNoObject", "(I)Z"⟩
abbrev b_Cs_greatestPriorityOn : ByteArray := prog_1_method_28_code
def y_Cs_greatestPriorityOn : MethodName := ⟨rCs, "greatestPriorityOn", "(I)I"⟩
abbrev b_AL_get : ByteArray := prog_15_method_20_code
def y_AL_get : MethodName := ⟨rAL, "get", "(I)Ljava/lang/Object;"⟩
abbrev b_Ob_checkIndex : ByteArray := prog_19_method_17_code
def y_Ob_checkIndex : MethodName := ⟨rOb, "checkIndex", "(II)I"⟩
abbrev b_Pc_checkIndex : ByteArray := prog_23_method_11_code
def y_Pc_checkIndex : MethodName := ⟨rPc, "checkIndex", "(IILjava/util/function/BiFunction;)I"⟩
abbrev b_AL_elementData : ByteArray := prog_15_method_18_code
def y_AL_elementData : MethodName := ⟨rAL, "elementData", "(I)Ljava/lang/Object;"⟩
abbrev b_Ta_hasSectionOn : ByteArray := prog_5_method_6_code
def y_Ta_hasSectionOn : MethodName := ⟨rTa, "hasSectionOn", "(I)Z"⟩
abbrev b_Cs_section : ByteArray := prog_1_method_4_code
def y_Cs_section : MethodName := ⟨rCs, "section", "(IIII)I"⟩
abbrev b_Cs_isNoTask : ByteArray := prog_1_method_27_code
def y_Cs_isNoTask : MethodName := ⟨rCs, "isNoTask", "(I)Z"⟩
abbrev b_Ta_hasSectionWithin : ByteArray := prog_5_method_5_code
def y_Ta_hasSectionWithin : MethodName := ⟨rTa, "hasSectionWithin", "(II)Z"⟩
abbrev b_Se_init : ByteArray := prog_4_method_1_code
def y_Se_init : MethodName := ⟨rSe, "<init>", "(III)V"⟩
abbrev b_Cs_start : ByteArray := prog_1_method_5_code
def y_Cs_start : MethodName := ⟨rCs, "start", "()I"⟩
abbrev b_AL_isEmpty : ByteArray := prog_15_method_9_code
def y_AL_isEmpty : MethodName := ⟨rAL, "isEmpty", "()Z"⟩
abbrev b_Cs_event : ByteArray := prog_1_method_6_code
def y_Cs_event : MethodName := ⟨rCs, "event", "(I)I"⟩
abbrev b_Jq_hasReleaseWithin : ByteArray := prog_3_method_4_code
def y_Jq_hasReleaseWithin : MethodName := ⟨rJq, "hasReleaseWithin", "(II)Z"⟩
abbrev b_Jq_isFull : ByteArray := prog_3_method_3_code
def y_Jq_isFull : MethodName := ⟨rJq, "isFull", "()Z"⟩
abbrev b_Jq_release : ByteArray := prog_3_method_6_code
def y_Jq_release : MethodName := ⟨rJq, "release", "(I)V"⟩
abbrev b_Cs_tick : ByteArray := prog_1_method_7_code
def y_Cs_tick : MethodName := ⟨rCs, "tick", "(I)I"⟩
abbrev b_Cs_isStopped : ByteArray := prog_1_method_20_code
def y_Cs_isStopped : MethodName := ⟨rCs, "isStopped", "()Z"⟩
abbrev b_Ta_isDueAt : ByteArray := prog_5_method_2_code
def y_Ta_isDueAt : MethodName := ⟨rTa, "isDueAt", "(I)Z"⟩
abbrev b_Cs_passUnit : ByteArray := prog_1_method_21_code
def y_Cs_passUnit : MethodName := ⟨rCs, "passUnit", "()V"⟩
abbrev b_Ta_releasePeriodicJob : ByteArray := prog_5_method_3_code
def y_Ta_releasePeriodicJob : MethodName := ⟨rTa, "releasePeriodicJob", "()V"⟩
abbrev b_Cs_chooseTask : ByteArray := prog_1_method_22_code
def y_Cs_chooseTask : MethodName := ⟨rCs, "chooseTask", "()I"⟩
abbrev b_Jq_isEmpty : ByteArray := prog_3_method_2_code
def y_Jq_isEmpty : MethodName := ⟨rJq, "isEmpty", "()Z"⟩
abbrev b_Cs_goesBefore : ByteArray := prog_1_method_23_code
def y_Cs_goesBefore : MethodName := ⟨rCs, "goesBefore", "(II)Z"⟩
abbrev b_Cs_activePriority : ByteArray := prog_1_method_24_code
def y_Cs_activePriority : MethodName := ⟨rCs, "activePriority", "(LCeilingScheduler$Task;)I"⟩
abbrev b_Ta_heldObject : ByteArray := prog_5_method_7_code
def y_Ta_heldObject : MethodName := ⟨rTa, "heldObject", "()I"⟩
abbrev b_Se_isHeldAfter : ByteArray := prog_4_method_2_code
def y_Se_isHeldAfter : MethodName := ⟨rSe, "isHeldAfter", "(I)Z"⟩
abbrev b_Jq_releaseOfFront : ByteArray := prog_3_method_5_code
def y_Jq_releaseOfFront : MethodName := ⟨rJq, "releaseOfFront", "()I"⟩
abbrev b_Hi_pass : ByteArray := prog_2_method_2_code
def y_Hi_pass : MethodName := ⟨rHi, "pass", "(I)V"⟩
abbrev b_Ma_floorMod : ByteArray := prog_11_method_50_code
def y_Ma_floorMod : MethodName := ⟨rMa, "floorMod", "(II)I"⟩
abbrev b_Ta_doUnit : ByteArray := prog_5_method_4_code
def y_Ta_doUnit : MethodName := ⟨rTa, "doUnit", "(I)V"⟩
abbrev b_Jq_finishFront : ByteArray := prog_3_method_7_code
def y_Jq_finishFront : MethodName := ⟨rJq, "finishFront", "(II)V"⟩
abbrev b_Cs_ran : ByteArray := prog_1_method_8_code
def y_Cs_ran : MethodName := ⟨rCs, "ran", "()I"⟩
abbrev b_Cs_tell : ByteArray := prog_1_method_9_code
def y_Cs_tell : MethodName := ⟨rCs, "tell", "(II)I"⟩
abbrev b_Jq_lateAt : ByteArray := prog_3_method_8_code
def y_Jq_lateAt : MethodName := ⟨rJq, "lateAt", "(II)I"⟩
abbrev b_Cs_holder : ByteArray := prog_1_method_10_code
def y_Cs_holder : MethodName := ⟨rCs, "holder", "(I)I"⟩
abbrev b_Cs_timeline : ByteArray := prog_1_method_11_code
def y_Cs_timeline : MethodName := ⟨rCs, "timeline", "(I)I"⟩
abbrev b_Hi_holdsUnit : ByteArray := prog_2_method_3_code
def y_Hi_holdsUnit : MethodName := ⟨rHi, "holdsUnit", "(I)Z"⟩
abbrev b_Hi_taskOfUnit : ByteArray := prog_2_method_4_code
def y_Hi_taskOfUnit : MethodName := ⟨rHi, "taskOfUnit", "(I)I"⟩
abbrev b_Cs_count : ByteArray := prog_1_method_12_code
def y_Cs_count : MethodName := ⟨rCs, "count", "(I)I"⟩
abbrev b_Cs_jobsNotDone : ByteArray := prog_1_method_29_code
def y_Cs_jobsNotDone : MethodName := ⟨rCs, "jobsNotDone", "()I"⟩
abbrev b_Cs_allBoundsMeetDeadlines : ByteArray := prog_1_method_19_code
def y_Cs_allBoundsMeetDeadlines : MethodName := ⟨rCs, "allBoundsMeetDeadlines", "()Z"⟩
abbrev b_Cs_boundOf : ByteArray := prog_1_method_17_code
def y_Cs_boundOf : MethodName := ⟨rCs, "boundOf", "(I)I"⟩
abbrev b_Cs_blockingOf : ByteArray := prog_1_method_15_code
def y_Cs_blockingOf : MethodName := ⟨rCs, "blockingOf", "(LCeilingScheduler$Task;)I"⟩
abbrev b_Cs_longestSectionFrom : ByteArray := prog_1_method_16_code
def y_Cs_longestSectionFrom : MethodName := ⟨rCs, "longestSectionFrom", "(LCeilingScheduler$Task;I)I"⟩
abbrev b_Cs_timeOfOthers : ByteArray := prog_1_method_18_code
def y_Cs_timeOfOthers : MethodName := ⟨rCs, "timeOfOthers", "(II)I"⟩
abbrev b_Ta_mostReleasesIn : ByteArray := prog_5_method_8_code
def y_Ta_mostReleasesIn : MethodName := ⟨rTa, "mostReleasesIn", "(I)I"⟩
abbrev b_Cs_blocking : ByteArray := prog_1_method_13_code
def y_Cs_blocking : MethodName := ⟨rCs, "blocking", "(I)I"⟩
abbrev b_Cs_bound : ByteArray := prog_1_method_14_code
def y_Cs_bound : MethodName := ⟨rCs, "bound", "(I)I"⟩
abbrev b_Mo_init : ByteArray := prog_7_method_1_code
def y_Mo_init : MethodName := ⟨rMo, "<init>", "()V"⟩
abbrev b_Mo_define : ByteArray := prog_7_method_4_code
def y_Mo_define : MethodName := ⟨rMo, "define", "(IIIII)I"⟩
abbrev b_Mo_out : ByteArray := prog_7_method_2_code
def y_Mo_out : MethodName := ⟨rMo, "out", "(III)Z"⟩
abbrev b_Mo_ceiling : ByteArray := prog_7_method_5_code
def y_Mo_ceiling : MethodName := ⟨rMo, "ceiling", "(II)I"⟩
abbrev b_Mo_section : ByteArray := prog_7_method_7_code
def y_Mo_section : MethodName := ⟨rMo, "section", "(IIII)I"⟩
abbrev b_Mo_no : ByteArray := prog_7_method_3_code
def y_Mo_no : MethodName := ⟨rMo, "no", "(I)Z"⟩
abbrev b_Mo_sectionAt : ByteArray := prog_7_method_6_code
def y_Mo_sectionAt : MethodName := ⟨rMo, "sectionAt", "(II)I"⟩
abbrev b_Mo_start : ByteArray := prog_7_method_8_code
def y_Mo_start : MethodName := ⟨rMo, "start", "()I"⟩
abbrev b_Mo_event : ByteArray := prog_7_method_10_code
def y_Mo_event : MethodName := ⟨rMo, "event", "(I)I"⟩
abbrev b_Mo_letGo : ByteArray := prog_7_method_9_code
def y_Mo_letGo : MethodName := ⟨rMo, "letGo", "(I)V"⟩
abbrev b_Mo_tick : ByteArray := prog_7_method_17_code
def y_Mo_tick : MethodName := ⟨rMo, "tick", "(I)I"⟩
abbrev b_Mo_unit : ByteArray := prog_7_method_16_code
def y_Mo_unit : MethodName := ⟨rMo, "unit", "()Z"⟩
abbrev b_Mo_comes : ByteArray := prog_7_method_11_code
def y_Mo_comes : MethodName := ⟨rMo, "comes", "(I)Z"⟩
abbrev b_Mo_goesBefore : ByteArray := prog_7_method_14_code
def y_Mo_goesBefore : MethodName := ⟨rMo, "goesBefore", "(II)Z"⟩
abbrev b_Mo_active : ByteArray := prog_7_method_13_code
def y_Mo_active : MethodName := ⟨rMo, "active", "(I)I"⟩
abbrev b_Mo_held : ByteArray := prog_7_method_12_code
def y_Mo_held : MethodName := ⟨rMo, "held", "(I)I"⟩
abbrev b_Mo_work : ByteArray := prog_7_method_15_code
def y_Mo_work : MethodName := ⟨rMo, "work", "(I)V"⟩
abbrev b_Mo_ran : ByteArray := prog_7_method_18_code
def y_Mo_ran : MethodName := ⟨rMo, "ran", "()I"⟩
abbrev b_Mo_tell : ByteArray := prog_7_method_19_code
def y_Mo_tell : MethodName := ⟨rMo, "tell", "(II)I"⟩
abbrev b_Mo_holder : ByteArray := prog_7_method_20_code
def y_Mo_holder : MethodName := ⟨rMo, "holder", "(I)I"⟩
abbrev b_Mo_blocking : ByteArray := prog_7_method_21_code
def y_Mo_blocking : MethodName := ⟨rMo, "blocking", "(I)I"⟩
abbrev b_Mo_bound : ByteArray := prog_7_method_22_code
def y_Mo_bound : MethodName := ⟨rMo, "bound", "(I)I"⟩
abbrev b_Mo_timeline : ByteArray := prog_7_method_23_code
def y_Mo_timeline : MethodName := ⟨rMo, "timeline", "(I)I"⟩
abbrev b_Mo_count : ByteArray := prog_7_method_24_code
def y_Mo_count : MethodName := ⟨rMo, "count", "(I)I"⟩
/-- the good words of the tables -/
def tbG : List Cond := lw_tbl.filter goodWord
def nwOk : Cond → Bool
  | .fieldLinkNest .. => true
  | .methodLinkNest .. => true
  | .castable .. => true
  | _ => false
/-- links across the nest, casts -/
def nwL : List Cond := lw_tbl.filter nwOk
theorem tbG_in {k : Nat} {w : Cond} (h : lw_tbl[k]? = some w) (hg : goodWord w = true) : w ∈ tbG := List.mem_filter.mpr ⟨List.mem_of_getElem? h, hg⟩
theorem nwL_in {k : Nat} {w : Cond} (h : lw_tbl[k]? = some w) (hg : nwOk w = true) : w ∈ nwL := List.mem_filter.mpr ⟨List.mem_of_getElem? h, hg⟩
theorem tbG_lw {w : Cond} (h : w ∈ tbG) : w ∈ lw_tbl := (List.mem_filter.mp h).1
theorem gdT {c1 : Cond} (h : c1 ∈ tbG) : GoodIn tbG (c1 :: tbG) := fun w hw => by
  rcases List.mem_cons.mp hw with rfl | hw
  · exact ⟨h, good_of_word (List.mem_filter.mp h).2⟩
  · exact ⟨hw, good_of_word (List.mem_filter.mp hw).2⟩
theorem gdV {c1 : Cond} {own C : String} {k : Nat} {y : MethodName} (h : c1 ∈ tbG) (h1 : Cond.methodLink own k y ∈ tbG) (h2 : Cond.instanceMethod y ∈ tbG) (h3 : Cond.selects C y y ∈ tbG) (h4 : Cond.initialized C ∈ tbG) : GoodIn tbG (wsV own k C y (c1 :: tbG)) := fun w hw => by
  unfold wsV at hw
  rcases List.mem_append.mp hw with hw | hw
  · have : w ∈ tbG := by
      simp only [List.mem_cons, List.not_mem_nil, or_false] at hw
      rcases hw with rfl | rfl | rfl | rfl
      · exact h1
      · exact h2
      · exact h3
      · exact h4
    exact ⟨this, good_of_word (List.mem_filter.mp this).2⟩
  · exact gdT h w hw
theorem gdS {c1 : Cond} {own : String} {k : Nat} {y : MethodName} (h : c1 ∈ tbG) (h1 : Cond.methodLink own k y ∈ tbG) (h2 : Cond.static y ∈ tbG) (h3 : Cond.initialized y.cls ∈ tbG) : GoodIn tbG (va_wsS own k y (c1 :: tbG)) := fun w hw => by
  unfold va_wsS at hw
  rcases List.mem_append.mp hw with hw | hw
  · have : w ∈ tbG := by
      simp only [List.mem_cons, List.not_mem_nil, or_false] at hw
      rcases hw with rfl | rfl | rfl
      · exact h1
      · exact h2
      · exact h3
    exact ⟨this, good_of_word (List.mem_filter.mp this).2⟩
  · exact gdT h w hw
def w_Cs_init : List Cond := .code y_Cs_init b_Cs_init 2 none :: tbG
theorem k_Cs_init : Cond.code y_Cs_init b_Cs_init 2 none ∈ tbG := tbG_in (k := 64) (by decide +kernel) rfl
def w_Oj_init : List Cond := .code y_Oj_init b_Oj_init 1 none :: tbG
theorem k_Oj_init : Cond.code y_Oj_init b_Oj_init 1 none ∈ tbG := tbG_in (k := 67) (by decide +kernel) rfl
def w_AL_init : List Cond := .code y_AL_init b_AL_init 1 none :: tbG
theorem k_AL_init : Cond.code y_AL_init b_AL_init 1 none ∈ tbG := tbG_in (k := 72) (by decide +kernel) rfl
def w_Ab_init : List Cond := .code y_Ab_init b_Ab_init 1 none :: tbG
theorem k_Ab_init : Cond.code y_Ab_init b_Ab_init 1 none ∈ tbG := tbG_in (k := 75) (by decide +kernel) rfl
def w_Ac_init : List Cond := .code y_Ac_init b_Ac_init 1 none :: tbG
theorem k_Ac_init : Cond.code y_Ac_init b_Ac_init 1 none ∈ tbG := tbG_in (k := 78) (by decide +kernel) rfl
def w_Hi_init : List Cond := .code y_Hi_init b_Hi_init 1 none :: tbG
theorem k_Hi_init : Cond.code y_Hi_init b_Hi_init 1 none ∈ tbG := tbG_in (k := 98) (by decide +kernel) rfl
def w_Cs_define : List Cond := .code y_Cs_define b_Cs_define 6 (some FieldType.int) :: tbG
theorem k_Cs_define : Cond.code y_Cs_define b_Cs_define 6 (some FieldType.int) ∈ tbG := tbG_in (k := 140) (by decide +kernel) rfl
def w_Cs_isOutside : List Cond := .code y_Cs_isOutside b_Cs_isOutside 3 (some FieldType.boolean) :: tbG
theorem k_Cs_isOutside : Cond.code y_Cs_isOutside b_Cs_isOutside 3 (some FieldType.boolean) ∈ tbG := tbG_in (k := 143) (by decide +kernel) rfl
def w_AL_size : List Cond := .code y_AL_size b_AL_size 1 (some FieldType.int) :: tbG
theorem k_AL_size : Cond.code y_AL_size b_AL_size 1 (some FieldType.int) ∈ tbG := tbG_in (k := 147) (by decide +kernel) rfl
def w_Ta_init : List Cond := .code y_Ta_init b_Ta_init 6 none :: tbG
theorem k_Ta_init : Cond.code y_Ta_init b_Ta_init 6 none ∈ tbG := tbG_in (k := 152) (by decide +kernel) rfl
def w_Jq_init : List Cond := .code y_Jq_init b_Jq_init 1 none :: tbG
theorem k_Jq_init : Cond.code y_Jq_init b_Jq_init 1 none ∈ tbG := tbG_in (k := 160) (by decide +kernel) rfl
def w_AL_add : List Cond := .code y_AL_add b_AL_add 2 (some FieldType.boolean) :: tbG
theorem k_AL_add : Cond.code y_AL_add b_AL_add 2 (some FieldType.boolean) ∈ tbG := tbG_in (k := 227) (by decide +kernel) rfl
def w_AL_add_Ljaval : List Cond := .code y_AL_add_Ljaval b_AL_add_Ljaval 4 none :: tbG
theorem k_AL_add_Ljaval : Cond.code y_AL_add_Ljaval b_AL_add_Ljaval 4 none ∈ tbG := tbG_in (k := 231) (by decide +kernel) rfl
def w_AL_grow : List Cond := .code y_AL_grow b_AL_grow 1 (some (FieldType.array (FieldType.object "java/lang/Object"))) :: tbG
theorem k_AL_grow : Cond.code y_AL_grow b_AL_grow 1 (some (FieldType.array (FieldType.object "java/lang/Object"))) ∈ tbG := tbG_in (k := 235) (by decide +kernel) rfl
def w_AL_grow_ILjava : List Cond := .code y_AL_grow_ILjava b_AL_grow_ILjava 4 (some (FieldType.array (FieldType.object "java/lang/Object"))) :: tbG
theorem k_AL_grow_ILjava : Cond.code y_AL_grow_ILjava b_AL_grow_ILjava 4 (some (FieldType.array (FieldType.object "java/lang/Object"))) ∈ tbG := tbG_in (k := 239) (by decide +kernel) rfl
def w_Ma_max : List Cond := .code y_Ma_max b_Ma_max 2 (some FieldType.int) :: tbG
theorem k_Ma_max : Cond.code y_Ma_max b_Ma_max 2 (some FieldType.int) ∈ tbG := tbG_in (k := 245) (by decide +kernel) rfl
def w_Ma_min : List Cond := .code y_Ma_min b_Ma_min 2 (some FieldType.int) :: tbG
theorem k_Ma_min : Cond.code y_Ma_min b_Ma_min 2 (some FieldType.int) ∈ tbG := tbG_in (k := 272) (by decide +kernel) rfl
def w_Cs_ceiling : List Cond := .code y_Cs_ceiling b_Cs_ceiling 3 (some FieldType.int) :: tbG
theorem k_Cs_ceiling : Cond.code y_Cs_ceiling b_Cs_ceiling 3 (some FieldType.int) ∈ tbG := tbG_in (k := 281) (by decide +kernel) rfl
def w_Cs_isNoObject : List Cond := .code y_Cs_isNoObject b_Cs_isNoObject 1 (some FieldType.boolean) :: tbG
theorem k_Cs_isNoObject : Cond.code y_Cs_isNoObject b_Cs_isNoObject 1 (some FieldType.boolean) ∈ tbG := tbG_in (k := 284) (by decide +kernel) rfl
def w_Cs_greatestPriorityOn : List Cond := .code y_Cs_greatestPriorityOn b_Cs_greatestPriorityOn 5 (some FieldType.int) :: tbG
theorem k_Cs_greatestPriorityOn : Cond.code y_Cs_greatestPriorityOn b_Cs_greatestPriorityOn 5 (some FieldType.int) ∈ tbG := tbG_in (k := 288) (by decide +kernel) rfl
def w_AL_get : List Cond := .code y_AL_get b_AL_get 2 (some (FieldType.object "java/lang/Object")) :: tbG
theorem k_AL_get : Cond.code y_AL_get b_AL_get 2 (some (FieldType.object "java/lang/Object")) ∈ tbG := tbG_in (k := 292) (by decide +kernel) rfl
def w_Ob_checkIndex : List Cond := .code y_Ob_checkIndex b_Ob_checkIndex 2 (some FieldType.int) :: tbG
theorem k_Ob_checkIndex : Cond.code y_Ob_checkIndex b_Ob_checkIndex 2 (some FieldType.int) ∈ tbG := tbG_in (k := 295) (by decide +kernel) rfl
def w_Pc_checkIndex : List Cond := .code y_Pc_checkIndex b_Pc_checkIndex 3 (some FieldType.int) :: tbG
theorem k_Pc_checkIndex : Cond.code y_Pc_checkIndex b_Pc_checkIndex 3 (some FieldType.int) ∈ tbG := tbG_in (k := 298) (by decide +kernel) rfl
def w_AL_elementData : List Cond := .code y_AL_elementData b_AL_elementData 2 (some (FieldType.object "java/lang/Object")) :: tbG
theorem k_AL_elementData : Cond.code y_AL_elementData b_AL_elementData 2 (some (FieldType.object "java/lang/Object")) ∈ tbG := tbG_in (k := 302) (by decide +kernel) rfl
def w_Ta_hasSectionOn : List Cond := .code y_Ta_hasSectionOn b_Ta_hasSectionOn 3 (some FieldType.boolean) :: tbG
theorem k_Ta_hasSectionOn : Cond.code y_Ta_hasSectionOn b_Ta_hasSectionOn 3 (some FieldType.boolean) ∈ tbG := tbG_in (k := 306) (by decide +kernel) rfl
def w_Cs_section : List Cond := .code y_Cs_section b_Cs_section 6 (some FieldType.int) :: tbG
theorem k_Cs_section : Cond.code y_Cs_section b_Cs_section 6 (some FieldType.int) ∈ tbG := tbG_in (k := 314) (by decide +kernel) rfl
def w_Cs_isNoTask : List Cond := .code y_Cs_isNoTask b_Cs_isNoTask 2 (some FieldType.boolean) :: tbG
theorem k_Cs_isNoTask : Cond.code y_Cs_isNoTask b_Cs_isNoTask 2 (some FieldType.boolean) ∈ tbG := tbG_in (k := 318) (by decide +kernel) rfl
def w_Ta_hasSectionWithin : List Cond := .code y_Ta_hasSectionWithin b_Ta_hasSectionWithin 5 (some FieldType.boolean) :: tbG
theorem k_Ta_hasSectionWithin : Cond.code y_Ta_hasSectionWithin b_Ta_hasSectionWithin 5 (some FieldType.boolean) ∈ tbG := tbG_in (k := 322) (by decide +kernel) rfl
def w_Se_init : List Cond := .code y_Se_init b_Se_init 4 none :: tbG
theorem k_Se_init : Cond.code y_Se_init b_Se_init 4 none ∈ tbG := tbG_in (k := 327) (by decide +kernel) rfl
def w_Cs_start : List Cond := .code y_Cs_start b_Cs_start 1 (some FieldType.int) :: tbG
theorem k_Cs_start : Cond.code y_Cs_start b_Cs_start 1 (some FieldType.int) ∈ tbG := tbG_in (k := 347) (by decide +kernel) rfl
def w_AL_isEmpty : List Cond := .code y_AL_isEmpty b_AL_isEmpty 1 (some FieldType.boolean) :: tbG
theorem k_AL_isEmpty : Cond.code y_AL_isEmpty b_AL_isEmpty 1 (some FieldType.boolean) ∈ tbG := tbG_in (k := 351) (by decide +kernel) rfl
def w_Cs_event : List Cond := .code y_Cs_event b_Cs_event 3 (some FieldType.int) :: tbG
theorem k_Cs_event : Cond.code y_Cs_event b_Cs_event 3 (some FieldType.int) ∈ tbG := tbG_in (k := 355) (by decide +kernel) rfl
def w_Jq_hasReleaseWithin : List Cond := .code y_Jq_hasReleaseWithin b_Jq_hasReleaseWithin 3 (some FieldType.boolean) :: tbG
theorem k_Jq_hasReleaseWithin : Cond.code y_Jq_hasReleaseWithin b_Jq_hasReleaseWithin 3 (some FieldType.boolean) ∈ tbG := tbG_in (k := 359) (by decide +kernel) rfl
def w_Jq_isFull : List Cond := .code y_Jq_isFull b_Jq_isFull 1 (some FieldType.boolean) :: tbG
theorem k_Jq_isFull : Cond.code y_Jq_isFull b_Jq_isFull 1 (some FieldType.boolean) ∈ tbG := tbG_in (k := 363) (by decide +kernel) rfl
def w_Jq_release : List Cond := .code y_Jq_release b_Jq_release 2 none :: tbG
theorem k_Jq_release : Cond.code y_Jq_release b_Jq_release 2 none ∈ tbG := tbG_in (k := 367) (by decide +kernel) rfl
def w_Cs_tick : List Cond := .code y_Cs_tick b_Cs_tick 3 (some FieldType.int) :: tbG
theorem k_Cs_tick : Cond.code y_Cs_tick b_Cs_tick 3 (some FieldType.int) ∈ tbG := tbG_in (k := 371) (by decide +kernel) rfl
def w_Cs_isStopped : List Cond := .code y_Cs_isStopped b_Cs_isStopped 3 (some FieldType.boolean) :: tbG
theorem k_Cs_isStopped : Cond.code y_Cs_isStopped b_Cs_isStopped 3 (some FieldType.boolean) ∈ tbG := tbG_in (k := 375) (by decide +kernel) rfl
def w_Ta_isDueAt : List Cond := .code y_Ta_isDueAt b_Ta_isDueAt 2 (some FieldType.boolean) :: tbG
theorem k_Ta_isDueAt : Cond.code y_Ta_isDueAt b_Ta_isDueAt 2 (some FieldType.boolean) ∈ tbG := tbG_in (k := 379) (by decide +kernel) rfl
def w_Cs_passUnit : List Cond := .code y_Cs_passUnit b_Cs_passUnit 3 none :: tbG
theorem k_Cs_passUnit : Cond.code y_Cs_passUnit b_Cs_passUnit 3 none ∈ tbG := tbG_in (k := 383) (by decide +kernel) rfl
def w_Ta_releasePeriodicJob : List Cond := .code y_Ta_releasePeriodicJob b_Ta_releasePeriodicJob 1 none :: tbG
theorem k_Ta_releasePeriodicJob : Cond.code y_Ta_releasePeriodicJob b_Ta_releasePeriodicJob 1 none ∈ tbG := tbG_in (k := 387) (by decide +kernel) rfl
def w_Cs_chooseTask : List Cond := .code y_Cs_chooseTask b_Cs_chooseTask 3 (some FieldType.int) :: tbG
theorem k_Cs_chooseTask : Cond.code y_Cs_chooseTask b_Cs_chooseTask 3 (some FieldType.int) ∈ tbG := tbG_in (k := 392) (by decide +kernel) rfl
def w_Jq_isEmpty : List Cond := .code y_Jq_isEmpty b_Jq_isEmpty 1 (some FieldType.boolean) :: tbG
theorem k_Jq_isEmpty : Cond.code y_Jq_isEmpty b_Jq_isEmpty 1 (some FieldType.boolean) ∈ tbG := tbG_in (k := 396) (by decide +kernel) rfl
def w_Cs_goesBefore : List Cond := .code y_Cs_goesBefore b_Cs_goesBefore 9 (some FieldType.boolean) :: tbG
theorem k_Cs_goesBefore : Cond.code y_Cs_goesBefore b_Cs_goesBefore 9 (some FieldType.boolean) ∈ tbG := tbG_in (k := 400) (by decide +kernel) rfl
def w_Cs_activePriority : List Cond := .code y_Cs_activePriority b_Cs_activePriority 3 (some FieldType.int) :: tbG
theorem k_Cs_activePriority : Cond.code y_Cs_activePriority b_Cs_activePriority 3 (some FieldType.int) ∈ tbG := tbG_in (k := 404) (by decide +kernel) rfl
def w_Ta_heldObject : List Cond := .code y_Ta_heldObject b_Ta_heldObject 3 (some FieldType.int) :: tbG
theorem k_Ta_heldObject : Cond.code y_Ta_heldObject b_Ta_heldObject 3 (some FieldType.int) ∈ tbG := tbG_in (k := 408) (by decide +kernel) rfl
def w_Se_isHeldAfter : List Cond := .code y_Se_isHeldAfter b_Se_isHeldAfter 2 (some FieldType.boolean) :: tbG
theorem k_Se_isHeldAfter : Cond.code y_Se_isHeldAfter b_Se_isHeldAfter 2 (some FieldType.boolean) ∈ tbG := tbG_in (k := 412) (by decide +kernel) rfl
def w_Jq_releaseOfFront : List Cond := .code y_Jq_releaseOfFront b_Jq_releaseOfFront 1 (some FieldType.int) :: tbG
theorem k_Jq_releaseOfFront : Cond.code y_Jq_releaseOfFront b_Jq_releaseOfFront 1 (some FieldType.int) ∈ tbG := tbG_in (k := 416) (by decide +kernel) rfl
def w_Hi_pass : List Cond := .code y_Hi_pass b_Hi_pass 2 none :: tbG
theorem k_Hi_pass : Cond.code y_Hi_pass b_Hi_pass 2 none ∈ tbG := tbG_in (k := 420) (by decide +kernel) rfl
def w_Ma_floorMod : List Cond := .code y_Ma_floorMod b_Ma_floorMod 3 (some FieldType.int) :: tbG
theorem k_Ma_floorMod : Cond.code y_Ma_floorMod b_Ma_floorMod 3 (some FieldType.int) ∈ tbG := tbG_in (k := 423) (by decide +kernel) rfl
def w_Ta_doUnit : List Cond := .code y_Ta_doUnit b_Ta_doUnit 2 none :: tbG
theorem k_Ta_doUnit : Cond.code y_Ta_doUnit b_Ta_doUnit 2 none ∈ tbG := tbG_in (k := 427) (by decide +kernel) rfl
def w_Jq_finishFront : List Cond := .code y_Jq_finishFront b_Jq_finishFront 4 none :: tbG
theorem k_Jq_finishFront : Cond.code y_Jq_finishFront b_Jq_finishFront 4 none ∈ tbG := tbG_in (k := 431) (by decide +kernel) rfl
def w_Cs_ran : List Cond := .code y_Cs_ran b_Cs_ran 1 (some FieldType.int) :: tbG
theorem k_Cs_ran : Cond.code y_Cs_ran b_Cs_ran 1 (some FieldType.int) ∈ tbG := tbG_in (k := 437) (by decide +kernel) rfl
def w_Cs_tell : List Cond := .code y_Cs_tell b_Cs_tell 5 (some FieldType.int) :: tbG
theorem k_Cs_tell : Cond.code y_Cs_tell b_Cs_tell 5 (some FieldType.int) ∈ tbG := tbG_in (k := 441) (by decide +kernel) rfl
def w_Jq_lateAt : List Cond := .code y_Jq_lateAt b_Jq_lateAt 5 (some FieldType.int) :: tbG
theorem k_Jq_lateAt : Cond.code y_Jq_lateAt b_Jq_lateAt 5 (some FieldType.int) ∈ tbG := tbG_in (k := 445) (by decide +kernel) rfl
def w_Cs_holder : List Cond := .code y_Cs_holder b_Cs_holder 3 (some FieldType.int) :: tbG
theorem k_Cs_holder : Cond.code y_Cs_holder b_Cs_holder 3 (some FieldType.int) ∈ tbG := tbG_in (k := 449) (by decide +kernel) rfl
def w_Cs_timeline : List Cond := .code y_Cs_timeline b_Cs_timeline 2 (some FieldType.int) :: tbG
theorem k_Cs_timeline : Cond.code y_Cs_timeline b_Cs_timeline 2 (some FieldType.int) ∈ tbG := tbG_in (k := 453) (by decide +kernel) rfl
def w_Hi_holdsUnit : List Cond := .code y_Hi_holdsUnit b_Hi_holdsUnit 2 (some FieldType.boolean) :: tbG
theorem k_Hi_holdsUnit : Cond.code y_Hi_holdsUnit b_Hi_holdsUnit 2 (some FieldType.boolean) ∈ tbG := tbG_in (k := 457) (by decide +kernel) rfl
def w_Hi_taskOfUnit : List Cond := .code y_Hi_taskOfUnit b_Hi_taskOfUnit 2 (some FieldType.int) :: tbG
theorem k_Hi_taskOfUnit : Cond.code y_Hi_taskOfUnit b_Hi_taskOfUnit 2 (some FieldType.int) ∈ tbG := tbG_in (k := 461) (by decide +kernel) rfl
def w_Cs_count : List Cond := .code y_Cs_count b_Cs_count 2 (some FieldType.int) :: tbG
theorem k_Cs_count : Cond.code y_Cs_count b_Cs_count 2 (some FieldType.int) ∈ tbG := tbG_in (k := 465) (by decide +kernel) rfl
def w_Cs_jobsNotDone : List Cond := .code y_Cs_jobsNotDone b_Cs_jobsNotDone 3 (some FieldType.int) :: tbG
theorem k_Cs_jobsNotDone : Cond.code y_Cs_jobsNotDone b_Cs_jobsNotDone 3 (some FieldType.int) ∈ tbG := tbG_in (k := 469) (by decide +kernel) rfl
def w_Cs_allBoundsMeetDeadlines : List Cond := .code y_Cs_allBoundsMeetDeadlines b_Cs_allBoundsMeetDeadlines 3 (some FieldType.boolean) :: tbG
theorem k_Cs_allBoundsMeetDeadlines : Cond.code y_Cs_allBoundsMeetDeadlines b_Cs_allBoundsMeetDeadlines 3 (some FieldType.boolean) ∈ tbG := tbG_in (k := 473) (by decide +kernel) rfl
def w_Cs_boundOf : List Cond := .code y_Cs_boundOf b_Cs_boundOf 5 (some FieldType.int) :: tbG
theorem k_Cs_boundOf : Cond.code y_Cs_boundOf b_Cs_boundOf 5 (some FieldType.int) ∈ tbG := tbG_in (k := 477) (by decide +kernel) rfl
def w_Cs_blockingOf : List Cond := .code y_Cs_blockingOf b_Cs_blockingOf 5 (some FieldType.int) :: tbG
theorem k_Cs_blockingOf : Cond.code y_Cs_blockingOf b_Cs_blockingOf 5 (some FieldType.int) ∈ tbG := tbG_in (k := 481) (by decide +kernel) rfl
def w_Cs_longestSectionFrom : List Cond := .code y_Cs_longestSectionFrom b_Cs_longestSectionFrom 6 (some FieldType.int) :: tbG
theorem k_Cs_longestSectionFrom : Cond.code y_Cs_longestSectionFrom b_Cs_longestSectionFrom 6 (some FieldType.int) ∈ tbG := tbG_in (k := 485) (by decide +kernel) rfl
def w_Cs_timeOfOthers : List Cond := .code y_Cs_timeOfOthers b_Cs_timeOfOthers 7 (some FieldType.int) :: tbG
theorem k_Cs_timeOfOthers : Cond.code y_Cs_timeOfOthers b_Cs_timeOfOthers 7 (some FieldType.int) ∈ tbG := tbG_in (k := 489) (by decide +kernel) rfl
def w_Ta_mostReleasesIn : List Cond := .code y_Ta_mostReleasesIn b_Ta_mostReleasesIn 2 (some FieldType.int) :: tbG
theorem k_Ta_mostReleasesIn : Cond.code y_Ta_mostReleasesIn b_Ta_mostReleasesIn 2 (some FieldType.int) ∈ tbG := tbG_in (k := 493) (by decide +kernel) rfl
def w_Cs_blocking : List Cond := .code y_Cs_blocking b_Cs_blocking 2 (some FieldType.int) :: tbG
theorem k_Cs_blocking : Cond.code y_Cs_blocking b_Cs_blocking 2 (some FieldType.int) ∈ tbG := tbG_in (k := 497) (by decide +kernel) rfl
def w_Cs_bound : List Cond := .code y_Cs_bound b_Cs_bound 2 (some FieldType.int) :: tbG
theorem k_Cs_bound : Cond.code y_Cs_bound b_Cs_bound 2 (some FieldType.int) ∈ tbG := tbG_in (k := 501) (by decide +kernel) rfl
def w_Mo_init : List Cond := .code y_Mo_init b_Mo_init 2 none :: tbG
theorem k_Mo_init : Cond.code y_Mo_init b_Mo_init 2 none ∈ tbG := tbG_in (k := 506) (by decide +kernel) rfl
def w_Mo_define : List Cond := .code y_Mo_define b_Mo_define 6 (some FieldType.int) :: tbG
theorem k_Mo_define : Cond.code y_Mo_define b_Mo_define 6 (some FieldType.int) ∈ tbG := tbG_in (k := 590) (by decide +kernel) rfl
def w_Mo_out : List Cond := .code y_Mo_out b_Mo_out 4 (some FieldType.boolean) :: tbG
theorem k_Mo_out : Cond.code y_Mo_out b_Mo_out 4 (some FieldType.boolean) ∈ tbG := tbG_in (k := 594) (by decide +kernel) rfl
def w_Mo_ceiling : List Cond := .code y_Mo_ceiling b_Mo_ceiling 5 (some FieldType.int) :: tbG
theorem k_Mo_ceiling : Cond.code y_Mo_ceiling b_Mo_ceiling 5 (some FieldType.int) ∈ tbG := tbG_in (k := 598) (by decide +kernel) rfl
def w_Mo_section : List Cond := .code y_Mo_section b_Mo_section 6 (some FieldType.int) :: tbG
theorem k_Mo_section : Cond.code y_Mo_section b_Mo_section 6 (some FieldType.int) ∈ tbG := tbG_in (k := 602) (by decide +kernel) rfl
def w_Mo_no : List Cond := .code y_Mo_no b_Mo_no 2 (some FieldType.boolean) :: tbG
theorem k_Mo_no : Cond.code y_Mo_no b_Mo_no 2 (some FieldType.boolean) ∈ tbG := tbG_in (k := 606) (by decide +kernel) rfl
def w_Mo_sectionAt : List Cond := .code y_Mo_sectionAt b_Mo_sectionAt 4 (some FieldType.int) :: tbG
theorem k_Mo_sectionAt : Cond.code y_Mo_sectionAt b_Mo_sectionAt 4 (some FieldType.int) ∈ tbG := tbG_in (k := 610) (by decide +kernel) rfl
def w_Mo_start : List Cond := .code y_Mo_start b_Mo_start 1 (some FieldType.int) :: tbG
theorem k_Mo_start : Cond.code y_Mo_start b_Mo_start 1 (some FieldType.int) ∈ tbG := tbG_in (k := 614) (by decide +kernel) rfl
def w_Mo_event : List Cond := .code y_Mo_event b_Mo_event 2 (some FieldType.int) :: tbG
theorem k_Mo_event : Cond.code y_Mo_event b_Mo_event 2 (some FieldType.int) ∈ tbG := tbG_in (k := 618) (by decide +kernel) rfl
def w_Mo_letGo : List Cond := .code y_Mo_letGo b_Mo_letGo 2 none :: tbG
theorem k_Mo_letGo : Cond.code y_Mo_letGo b_Mo_letGo 2 none ∈ tbG := tbG_in (k := 622) (by decide +kernel) rfl
def w_Mo_tick : List Cond := .code y_Mo_tick b_Mo_tick 3 (some FieldType.int) :: tbG
theorem k_Mo_tick : Cond.code y_Mo_tick b_Mo_tick 3 (some FieldType.int) ∈ tbG := tbG_in (k := 626) (by decide +kernel) rfl
def w_Mo_unit : List Cond := .code y_Mo_unit b_Mo_unit 4 (some FieldType.boolean) :: tbG
theorem k_Mo_unit : Cond.code y_Mo_unit b_Mo_unit 4 (some FieldType.boolean) ∈ tbG := tbG_in (k := 630) (by decide +kernel) rfl
def w_Mo_comes : List Cond := .code y_Mo_comes b_Mo_comes 2 (some FieldType.boolean) :: tbG
theorem k_Mo_comes : Cond.code y_Mo_comes b_Mo_comes 2 (some FieldType.boolean) ∈ tbG := tbG_in (k := 634) (by decide +kernel) rfl
def w_Mo_goesBefore : List Cond := .code y_Mo_goesBefore b_Mo_goesBefore 3 (some FieldType.boolean) :: tbG
theorem k_Mo_goesBefore : Cond.code y_Mo_goesBefore b_Mo_goesBefore 3 (some FieldType.boolean) ∈ tbG := tbG_in (k := 638) (by decide +kernel) rfl
def w_Mo_active : List Cond := .code y_Mo_active b_Mo_active 3 (some FieldType.int) :: tbG
theorem k_Mo_active : Cond.code y_Mo_active b_Mo_active 3 (some FieldType.int) ∈ tbG := tbG_in (k := 642) (by decide +kernel) rfl
def w_Mo_held : List Cond := .code y_Mo_held b_Mo_held 3 (some FieldType.int) :: tbG
theorem k_Mo_held : Cond.code y_Mo_held b_Mo_held 3 (some FieldType.int) ∈ tbG := tbG_in (k := 646) (by decide +kernel) rfl
def w_Mo_work : List Cond := .code y_Mo_work b_Mo_work 4 none :: tbG
theorem k_Mo_work : Cond.code y_Mo_work b_Mo_work 4 none ∈ tbG := tbG_in (k := 650) (by decide +kernel) rfl
def w_Mo_ran : List Cond := .code y_Mo_ran b_Mo_ran 1 (some FieldType.int) :: tbG
theorem k_Mo_ran : Cond.code y_Mo_ran b_Mo_ran 1 (some FieldType.int) ∈ tbG := tbG_in (k := 654) (by decide +kernel) rfl
def w_Mo_tell : List Cond := .code y_Mo_tell b_Mo_tell 3 (some FieldType.int) :: tbG
theorem k_Mo_tell : Cond.code y_Mo_tell b_Mo_tell 3 (some FieldType.int) ∈ tbG := tbG_in (k := 658) (by decide +kernel) rfl
def w_Mo_holder : List Cond := .code y_Mo_holder b_Mo_holder 3 (some FieldType.int) :: tbG
theorem k_Mo_holder : Cond.code y_Mo_holder b_Mo_holder 3 (some FieldType.int) ∈ tbG := tbG_in (k := 662) (by decide +kernel) rfl
def w_Mo_blocking : List Cond := .code y_Mo_blocking b_Mo_blocking 5 (some FieldType.int) :: tbG
theorem k_Mo_blocking : Cond.code y_Mo_blocking b_Mo_blocking 5 (some FieldType.int) ∈ tbG := tbG_in (k := 666) (by decide +kernel) rfl
def w_Mo_bound : List Cond := .code y_Mo_bound b_Mo_bound 5 (some FieldType.int) :: tbG
theorem k_Mo_bound : Cond.code y_Mo_bound b_Mo_bound 5 (some FieldType.int) ∈ tbG := tbG_in (k := 670) (by decide +kernel) rfl
def w_Mo_timeline : List Cond := .code y_Mo_timeline b_Mo_timeline 2 (some FieldType.int) :: tbG
theorem k_Mo_timeline : Cond.code y_Mo_timeline b_Mo_timeline 2 (some FieldType.int) ∈ tbG := tbG_in (k := 675) (by decide +kernel) rfl
def w_Mo_count : List Cond := .code y_Mo_count b_Mo_count 6 (some FieldType.int) :: tbG
theorem k_Mo_count : Cond.code y_Mo_count b_Mo_count 6 (some FieldType.int) ∈ tbG := tbG_in (k := 679) (by decide +kernel) rfl
theorem iHi : ∀ w ∈ u_ws rHi fHi 6, w ∈ tbG := by decide +kernel
theorem iJq : ∀ w ∈ u_ws rJq fJq 8, w ∈ tbG := by decide +kernel
theorem iSe : ∀ w ∈ u_ws rSe fSe 3, w ∈ tbG := by decide +kernel
theorem iTa : ∀ w ∈ u_ws rTa fTa 8, w ∈ tbG := by decide +kernel
theorem iCs : ∀ w ∈ u_ws rCs fCs 4, w ∈ tbG := by decide +kernel
theorem iMo : ∀ w ∈ u_ws rMo fMo 26, w ∈ tbG := by decide +kernel
theorem iAL : ∀ w ∈ u_ws rAL fAL 3, w ∈ tbG := by decide +kernel
theorem dv_Hi : ∀ j, j < 6 → defaultValue (yHi_t j) = vp_V [.null, .int (iZ 0), .int (iZ 0), .int (iZ 0), .int (iZ 0), .int (iZ 0)] j := by
  intro j hj; match j, hj with
  | 0, _ => rfl
  | 1, _ => rfl
  | 2, _ => rfl
  | 3, _ => rfl
  | 4, _ => rfl
  | 5, _ => rfl
  | k + 6, hj => exact absurd hj (by omega)
theorem dv_Jq : ∀ j, j < 8 → defaultValue (yJq_t j) = vp_V [.null, .int (iZ 0), .int (iZ 0), .int (iZ 0), .int (iZ 0), .int (iZ 0), .int (iZ 0), .int (iZ 0)] j := by
  intro j hj; match j, hj with
  | 0, _ => rfl
  | 1, _ => rfl
  | 2, _ => rfl
  | 3, _ => rfl
  | 4, _ => rfl
  | 5, _ => rfl
  | 6, _ => rfl
  | 7, _ => rfl
  | k + 8, hj => exact absurd hj (by omega)
theorem dv_Se : ∀ j, j < 3 → defaultValue (ySe_t j) = vp_V [.int (iZ 0), .int (iZ 0), .int (iZ 0)] j := by
  intro j hj; match j, hj with
  | 0, _ => rfl
  | 1, _ => rfl
  | 2, _ => rfl
  | k + 3, hj => exact absurd hj (by omega)
theorem dv_Ta : ∀ j, j < 8 → defaultValue (yTa_t j) = vp_V [.int (iZ 0), .int (iZ 0), .int (iZ 0), .int (iZ 0), .int (bZ false), .null, .null, .int (iZ 0)] j := by
  intro j hj; match j, hj with
  | 0, _ => rfl
  | 1, _ => rfl
  | 2, _ => rfl
  | 3, _ => rfl
  | 4, _ => rfl
  | 5, _ => rfl
  | 6, _ => rfl
  | 7, _ => rfl
  | k + 8, hj => exact absurd hj (by omega)
theorem dv_Cs : ∀ j, j < 4 → defaultValue (yCs_t j) = vp_V [.null, .null, .null, .int (bZ false)] j := by
  intro j hj; match j, hj with
  | 0, _ => rfl
  | 1, _ => rfl
  | 2, _ => rfl
  | 3, _ => rfl
  | k + 4, hj => exact absurd hj (by omega)
theorem dv_Mo : ∀ j, j < 26 → defaultValue (yMo_t j) = vp_V [.int (iZ 0), .int (iZ 0), .int (iZ 0), .int (iZ 0), .int (iZ 0), .int (iZ 0), .int (bZ false), .null, .null, .null, .null, .null, .null, .null, .null, .null, .null, .null, .null, .null, .null, .null, .null, .null, .null, .null] j := by
  intro j hj; match j, hj with
  | 0, _ => rfl
  | 1, _ => rfl
  | 2, _ => rfl
  | 3, _ => rfl
  | 4, _ => rfl
  | 5, _ => rfl
  | 6, _ => rfl
  | 7, _ => rfl
  | 8, _ => rfl
  | 9, _ => rfl
  | 10, _ => rfl
  | 11, _ => rfl
  | 12, _ => rfl
  | 13, _ => rfl
  | 14, _ => rfl
  | 15, _ => rfl
  | 16, _ => rfl
  | 17, _ => rfl
  | 18, _ => rfl
  | 19, _ => rfl
  | 20, _ => rfl
  | 21, _ => rfl
  | 22, _ => rfl
  | 23, _ => rfl
  | 24, _ => rfl
  | 25, _ => rfl
  | k + 26, hj => exact absurd hj (by omega)
theorem dv_AL : ∀ j, j < 3 → defaultValue (yAL_t j) = vp_V [.int (iZ 0), .null, .int (iZ 0)] j := by
  intro j hj; match j, hj with
  | 0, _ => rfl
  | 1, _ => rfl
  | 2, _ => rfl
  | k + 3, hj => exact absurd hj (by omega)
