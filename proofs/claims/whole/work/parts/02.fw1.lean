/-! Numbers: every int of the machine is written iZ x, x : Int; ir x: x is in range. -/
def iZ (x : Int) : Int32 := Int32.ofInt x
def ir (x : Int) : Prop := -2147483648 ≤ x ∧ x ≤ 2147483647
theorem iZ_toInt {x : Int} (h : ir x) : (iZ x).toInt = x := Int32.toInt_ofInt_of_le (by have := h.1; omega) (by have := h.2; omega)
theorem iZ_of (x : Int32) : x = iZ x.toInt := (Int32.ofInt_toInt x).symm
theorem ir_toInt (x : Int32) : ir x.toInt := ⟨Int32.le_toInt x, by have := Int32.toInt_lt x; omega⟩
theorem iZ_ex (x : Int32) : ∃ k : Int, x = iZ k ∧ ir k := ⟨x.toInt, iZ_of x, ir_toInt x⟩
theorem iZ_add (x y : Int) : iZ x + iZ y = iZ (x + y) := (Int32.ofInt_add x y).symm
theorem iZ_sub (x y : Int) : iZ x - iZ y = iZ (x - y) := (Int32.ofInt_sub x y).symm
theorem iZ_mul (x y : Int) : iZ x * iZ y = iZ (x * y) := (Int32.ofInt_mul x y).symm
theorem iZ_nI (n : Nat) : iZ (n : Int) = nI n := Int32.ofInt_eq_ofNat
theorem iZ_lt {x y : Int} (hx : ir x) (hy : ir y) : iZ x < iZ y ↔ x < y := by rw [Int32.lt_iff_toInt_lt, iZ_toInt hx, iZ_toInt hy]
theorem iZ_le {x y : Int} (hx : ir x) (hy : ir y) : iZ x ≤ iZ y ↔ x ≤ y := by rw [Int32.le_iff_toInt_le, iZ_toInt hx, iZ_toInt hy]
theorem iZ_eq {x y : Int} (hx : ir x) (hy : ir y) : iZ x = iZ y ↔ x = y := by rw [← Int32.toInt_inj, iZ_toInt hx, iZ_toInt hy]
theorem ir0 : ir 0 := ⟨by decide, by decide⟩
theorem iZ_0 : iZ 0 = 0 := by decide
theorem iZ_clamp {x : Int} (h0 : 0 ≤ x) (h : x ≤ 2147483647) : (iZ x).toNatClampNeg = x.toNat := Int32.toNatClampNeg_ofInt_of_le (by omega) (by omega)
theorem iZ_div {a d : Int} (ha : 0 ≤ a) (ha2 : a ≤ 2147483647) (hd : 0 < d) (hd2 : d ≤ 2147483647) : iZ a / iZ d = iZ (a / d) := by
  obtain ⟨x, rfl⟩ := Int.eq_ofNat_of_zero_le ha
  obtain ⟨y, rfl⟩ := Int.eq_ofNat_of_zero_le (Int.le_of_lt hd)
  rw [iZ_nI, iZ_nI, pk_div (by omega) (by omega) (by omega), ← iZ_nI, Int.natCast_ediv]
theorem iZ_rem {a d : Int} (ha : 0 ≤ a) (ha2 : a ≤ 2147483647) (hd : 0 < d) (hd2 : d ≤ 2147483647) : iZ a - iZ a / iZ d * iZ d = iZ (a % d) := by
  obtain ⟨x, rfl⟩ := Int.eq_ofNat_of_zero_le ha
  obtain ⟨y, rfl⟩ := Int.eq_ofNat_of_zero_le (Int.le_of_lt hd)
  rw [iZ_nI, iZ_nI, pk_rem (by omega) (by omega) (by omega), ← iZ_nI, Int.natCast_emod]
theorem iZ_ne0 {d : Int} (hd : ir d) (h : d ≠ 0) : ¬ iZ d = 0 := by
  rw [← iZ_0, iZ_eq hd ir0]
  exact h
theorem iZ_in {k : Int} {n : Nat} (h0 : 0 ≤ k) (h : k < n) (hn : n < 2 ^ 31) : vp_in (iZ k) n := by
  rw [vp_in_iff, iZ_toInt ⟨by omega, by omega⟩]
  exact ⟨h0, h⟩
/-- a truth as the machine has it -/
def bZ (b : Bool) : Int32 := if b then iZ 1 else iZ 0
theorem bZ_t : bZ true = iZ 1 := rfl
theorem bZ_f : bZ false = iZ 0 := rfl
theorem bZ_0 {b : Bool} : bZ b = 0 ↔ b = false := by cases b <;> decide
theorem bZ_nar (b : Bool) : narrow .boolean (.int (bZ b)) = .int (bZ b) := by cases b <;> decide
theorem bz1 {b : Bool} (h : b = true) : iZ 1 = bZ b := by rw [h]; rfl
theorem bz0 {b : Bool} (h : b = false) : iZ 0 = bZ b := by rw [h]; rfl
theorem bZ_fit (b : Bool) : fits .boolean (.int (bZ b)) = true := by cases b <;> decide
theorem iZ_max {x y : Int} (hx : ir x) (hy : ir y) : (if iZ x < iZ y then iZ y else iZ x) = iZ (max x y) := by
  by_cases h : x < y
  · rw [if_pos ((iZ_lt hx hy).mpr h), Int.max_eq_right (by omega)]
  · rw [if_neg (fun q => h ((iZ_lt hx hy).mp q)), Int.max_eq_left (by omega)]
theorem iZ_min {x y : Int} (hx : ir x) (hy : ir y) : (if iZ y < iZ x then iZ y else iZ x) = iZ (min x y) := by
  by_cases h : y < x
  · rw [if_pos ((iZ_lt hy hx).mpr h), Int.min_eq_right (by omega)]
  · rw [if_neg (fun q => h ((iZ_lt hy hx).mp q)), Int.min_eq_left (by omega)]
section ZZ
variable {p : Program} {l : Launch} {e : Env} {R : Room} {s : State} {m : MethodId} {args : Array Value} {below : List Frame} {meth : Method} {c : Code} {H : Heap} {locs : List Loc} {cells slots : Nat} {Q : State → Prop}
variable {cc : ByteArray} {pc : Nat} {ls : Array Slot} {rest : List Value}
theorem zz_iadd (hexec : p.tables.exec = Jvm.exec) (hb : c.code = cc) {x y : Int} (hdg : decode cc pc = .ok (.iadd, 1)) (k : W p l e R s m args below meth c H locs cells slots Q (F0 m (pc + 1) ls (.int (iZ (x + y)) :: rest))) : W p l e R s m args below meth c H locs cells slots Q (F0 m pc ls (.int (iZ y) :: .int (iZ x) :: rest)) :=
  lv_iadd hexec hb hdg (by rw [iZ_add]; exact k)
theorem zz_isub (hexec : p.tables.exec = Jvm.exec) (hb : c.code = cc) {x y : Int} (hdg : decode cc pc = .ok (.isub, 1)) (k : W p l e R s m args below meth c H locs cells slots Q (F0 m (pc + 1) ls (.int (iZ (x - y)) :: rest))) : W p l e R s m args below meth c H locs cells slots Q (F0 m pc ls (.int (iZ y) :: .int (iZ x) :: rest)) :=
  lv_isub hexec hb hdg (by rw [iZ_sub]; exact k)
theorem zz_imul (hexec : p.tables.exec = Jvm.exec) (hb : c.code = cc) {x y : Int} (hdg : decode cc pc = .ok (.imul, 1)) (k : W p l e R s m args below meth c H locs cells slots Q (F0 m (pc + 1) ls (.int (iZ (x * y)) :: rest))) : W p l e R s m args below meth c H locs cells slots Q (F0 m pc ls (.int (iZ y) :: .int (iZ x) :: rest)) :=
  lv_imul hexec hb hdg (by rw [iZ_mul]; exact k)
theorem zz_idiv (hexec : p.tables.exec = Jvm.exec) (hb : c.code = cc) {x y : Int} (hdg : decode cc pc = .ok (.idiv, 1)) (h1 : 0 ≤ x) (h2 : x ≤ 2147483647) (h3 : 0 < y) (h4 : y ≤ 2147483647) (k : W p l e R s m args below meth c H locs cells slots Q (F0 m (pc + 1) ls (.int (iZ (x / y)) :: rest))) : W p l e R s m args below meth c H locs cells slots Q (F0 m pc ls (.int (iZ y) :: .int (iZ x) :: rest)) :=
  lv_idiv hexec hb hdg (iZ_ne0 ⟨by omega, h4⟩ (by omega)) (by rw [iZ_div h1 h2 h3 h4]; exact k)
theorem zz_irem (hexec : p.tables.exec = Jvm.exec) (hb : c.code = cc) {x y : Int} (hdg : decode cc pc = .ok (.irem, 1)) (h1 : 0 ≤ x) (h2 : x ≤ 2147483647) (h3 : 0 < y) (h4 : y ≤ 2147483647) (k : W p l e R s m args below meth c H locs cells slots Q (F0 m (pc + 1) ls (.int (iZ (x % y)) :: rest))) : W p l e R s m args below meth c H locs cells slots Q (F0 m pc ls (.int (iZ y) :: .int (iZ x) :: rest)) :=
  lv_irem hexec hb hdg (iZ_ne0 ⟨by omega, h4⟩ (by omega)) (by rw [iZ_rem h1 h2 h3 h4]; exact k)
theorem zz_icmp_eq (hexec : p.tables.exec = Jvm.exec) (hb : c.code = cc) {x y : Int} {off : Int} {tgt : Nat} (hdg : decode cc pc = .ok (.if_icmp .eq off, 3)) (ht : (pc : Int) + off = (tgt : Int)) (hx : ir x) (hy : ir y)
    (kt : x = y → W p l e R s m args below meth c H locs cells slots Q (F0 m tgt ls rest)) (kf : x ≠ y → W p l e R s m args below meth c H locs cells slots Q (F0 m (pc + 3) ls rest)) : W p l e R s m args below meth c H locs cells slots Q (F0 m pc ls (.int (iZ y) :: .int (iZ x) :: rest)) :=
  lv_icmp_eq hexec hb hdg ht (fun z => kt ((iZ_eq hx hy).mp z)) (fun z => kf (fun q => z ((iZ_eq hx hy).mpr q)))
theorem zz_icmp_ne (hexec : p.tables.exec = Jvm.exec) (hb : c.code = cc) {x y : Int} {off : Int} {tgt : Nat} (hdg : decode cc pc = .ok (.if_icmp .ne off, 3)) (ht : (pc : Int) + off = (tgt : Int)) (hx : ir x) (hy : ir y)
    (kt : x ≠ y → W p l e R s m args below meth c H locs cells slots Q (F0 m tgt ls rest)) (kf : x = y → W p l e R s m args below meth c H locs cells slots Q (F0 m (pc + 3) ls rest)) : W p l e R s m args below meth c H locs cells slots Q (F0 m pc ls (.int (iZ y) :: .int (iZ x) :: rest)) :=
  lv_icmp_ne hexec hb hdg ht (fun z => kt (fun q => z ((iZ_eq hx hy).mpr q))) (fun z => kf ((iZ_eq hx hy).mp z))
theorem zz_icmp_lt (hexec : p.tables.exec = Jvm.exec) (hb : c.code = cc) {x y : Int} {off : Int} {tgt : Nat} (hdg : decode cc pc = .ok (.if_icmp .lt off, 3)) (ht : (pc : Int) + off = (tgt : Int)) (hx : ir x) (hy : ir y)
    (kt : x < y → W p l e R s m args below meth c H locs cells slots Q (F0 m tgt ls rest)) (kf : y ≤ x → W p l e R s m args below meth c H locs cells slots Q (F0 m (pc + 3) ls rest)) : W p l e R s m args below meth c H locs cells slots Q (F0 m pc ls (.int (iZ y) :: .int (iZ x) :: rest)) :=
  lv_icmp_lt hexec hb hdg ht (fun z => kt ((iZ_lt hx hy).mp z)) (fun z => kf (by have h1 : ¬ _ := fun q => z ((iZ_lt hx hy).mpr q); omega))
theorem zz_icmp_ge (hexec : p.tables.exec = Jvm.exec) (hb : c.code = cc) {x y : Int} {off : Int} {tgt : Nat} (hdg : decode cc pc = .ok (.if_icmp .ge off, 3)) (ht : (pc : Int) + off = (tgt : Int)) (hx : ir x) (hy : ir y)
    (kt : y ≤ x → W p l e R s m args below meth c H locs cells slots Q (F0 m tgt ls rest)) (kf : x < y → W p l e R s m args below meth c H locs cells slots Q (F0 m (pc + 3) ls rest)) : W p l e R s m args below meth c H locs cells slots Q (F0 m pc ls (.int (iZ y) :: .int (iZ x) :: rest)) :=
  lv_icmp_ge hexec hb hdg ht (fun z => kt ((iZ_le hy hx).mp z)) (fun z => kf (by have h1 : ¬ _ := fun q => z ((iZ_le hy hx).mpr q); omega))
theorem zz_icmp_gt (hexec : p.tables.exec = Jvm.exec) (hb : c.code = cc) {x y : Int} {off : Int} {tgt : Nat} (hdg : decode cc pc = .ok (.if_icmp .gt off, 3)) (ht : (pc : Int) + off = (tgt : Int)) (hx : ir x) (hy : ir y)
    (kt : y < x → W p l e R s m args below meth c H locs cells slots Q (F0 m tgt ls rest)) (kf : x ≤ y → W p l e R s m args below meth c H locs cells slots Q (F0 m (pc + 3) ls rest)) : W p l e R s m args below meth c H locs cells slots Q (F0 m pc ls (.int (iZ y) :: .int (iZ x) :: rest)) :=
  lv_icmp_gt hexec hb hdg ht (fun z => kt ((iZ_lt hy hx).mp z)) (fun z => kf (by have h1 : ¬ _ := fun q => z ((iZ_lt hy hx).mpr q); omega))
theorem zz_icmp_le (hexec : p.tables.exec = Jvm.exec) (hb : c.code = cc) {x y : Int} {off : Int} {tgt : Nat} (hdg : decode cc pc = .ok (.if_icmp .le off, 3)) (ht : (pc : Int) + off = (tgt : Int)) (hx : ir x) (hy : ir y)
    (kt : x ≤ y → W p l e R s m args below meth c H locs cells slots Q (F0 m tgt ls rest)) (kf : y < x → W p l e R s m args below meth c H locs cells slots Q (F0 m (pc + 3) ls rest)) : W p l e R s m args below meth c H locs cells slots Q (F0 m pc ls (.int (iZ y) :: .int (iZ x) :: rest)) :=
  lv_icmp_le hexec hb hdg ht (fun z => kt ((iZ_le hx hy).mp z)) (fun z => kf (by have h1 : ¬ _ := fun q => z ((iZ_le hx hy).mpr q); omega))
theorem zz_if_eq (hexec : p.tables.exec = Jvm.exec) (hb : c.code = cc) {x : Int} {off : Int} {tgt : Nat} (hdg : decode cc pc = .ok (.ifCond .eq off, 3)) (ht : (pc : Int) + off = (tgt : Int)) (hx : ir x)
    (kt : x = 0 → W p l e R s m args below meth c H locs cells slots Q (F0 m tgt ls rest)) (kf : x ≠ 0 → W p l e R s m args below meth c H locs cells slots Q (F0 m (pc + 3) ls rest)) : W p l e R s m args below meth c H locs cells slots Q (F0 m pc ls (.int (iZ x) :: rest)) := by
  refine lv_if_eq hexec hb hdg ht ?_ ?_ <;> rw [← iZ_0]
  · exact fun z => kt ((iZ_eq hx ir0).mp z)
  · exact fun z => kf (fun q => z ((iZ_eq hx ir0).mpr q))
theorem zz_if_ne (hexec : p.tables.exec = Jvm.exec) (hb : c.code = cc) {x : Int} {off : Int} {tgt : Nat} (hdg : decode cc pc = .ok (.ifCond .ne off, 3)) (ht : (pc : Int) + off = (tgt : Int)) (hx : ir x)
    (kt : x ≠ 0 → W p l e R s m args below meth c H locs cells slots Q (F0 m tgt ls rest)) (kf : x = 0 → W p l e R s m args below meth c H locs cells slots Q (F0 m (pc + 3) ls rest)) : W p l e R s m args below meth c H locs cells slots Q (F0 m pc ls (.int (iZ x) :: rest)) := by
  refine lv_if_ne hexec hb hdg ht ?_ ?_ <;> rw [← iZ_0]
  · exact fun z => kt (fun q => z ((iZ_eq hx ir0).mpr q))
  · exact fun z => kf ((iZ_eq hx ir0).mp z)
theorem zz_if_lt (hexec : p.tables.exec = Jvm.exec) (hb : c.code = cc) {x : Int} {off : Int} {tgt : Nat} (hdg : decode cc pc = .ok (.ifCond .lt off, 3)) (ht : (pc : Int) + off = (tgt : Int)) (hx : ir x)
    (kt : x < 0 → W p l e R s m args below meth c H locs cells slots Q (F0 m tgt ls rest)) (kf : 0 ≤ x → W p l e R s m args below meth c H locs cells slots Q (F0 m (pc + 3) ls rest)) : W p l e R s m args below meth c H locs cells slots Q (F0 m pc ls (.int (iZ x) :: rest)) := by
  refine lv_if_lt hexec hb hdg ht ?_ ?_ <;> rw [← iZ_0]
  · exact fun z => kt ((iZ_lt hx ir0).mp z)
  · exact fun z => kf (by have h1 : ¬ _ := fun q => z ((iZ_lt hx ir0).mpr q); omega)
theorem zz_if_ge (hexec : p.tables.exec = Jvm.exec) (hb : c.code = cc) {x : Int} {off : Int} {tgt : Nat} (hdg : decode cc pc = .ok (.ifCond .ge off, 3)) (ht : (pc : Int) + off = (tgt : Int)) (hx : ir x)
    (kt : 0 ≤ x → W p l e R s m args below meth c H locs cells slots Q (F0 m tgt ls rest)) (kf : x < 0 → W p l e R s m args below meth c H locs cells slots Q (F0 m (pc + 3) ls rest)) : W p l e R s m args below meth c H locs cells slots Q (F0 m pc ls (.int (iZ x) :: rest)) := by
  refine lv_if_ge hexec hb hdg ht ?_ ?_ <;> rw [← iZ_0]
  · exact fun z => kt ((iZ_le ir0 hx).mp z)
  · exact fun z => kf (by have h1 : ¬ _ := fun q => z ((iZ_le ir0 hx).mpr q); omega)
theorem zz_if_gt (hexec : p.tables.exec = Jvm.exec) (hb : c.code = cc) {x : Int} {off : Int} {tgt : Nat} (hdg : decode cc pc = .ok (.ifCond .gt off, 3)) (ht : (pc : Int) + off = (tgt : Int)) (hx : ir x)
    (kt : 0 < x → W p l e R s m args below meth c H locs cells slots Q (F0 m tgt ls rest)) (kf : x ≤ 0 → W p l e R s m args below meth c H locs cells slots Q (F0 m (pc + 3) ls rest)) : W p l e R s m args below meth c H locs cells slots Q (F0 m pc ls (.int (iZ x) :: rest)) := by
  refine lv_if_gt hexec hb hdg ht ?_ ?_ <;> rw [← iZ_0]
  · exact fun z => kt ((iZ_lt ir0 hx).mp z)
  · exact fun z => kf (by have h1 : ¬ _ := fun q => z ((iZ_lt ir0 hx).mpr q); omega)
theorem zz_if_le (hexec : p.tables.exec = Jvm.exec) (hb : c.code = cc) {x : Int} {off : Int} {tgt : Nat} (hdg : decode cc pc = .ok (.ifCond .le off, 3)) (ht : (pc : Int) + off = (tgt : Int)) (hx : ir x)
    (kt : x ≤ 0 → W p l e R s m args below meth c H locs cells slots Q (F0 m tgt ls rest)) (kf : 0 < x → W p l e R s m args below meth c H locs cells slots Q (F0 m (pc + 3) ls rest)) : W p l e R s m args below meth c H locs cells slots Q (F0 m pc ls (.int (iZ x) :: rest)) := by
  refine lv_if_le hexec hb hdg ht ?_ ?_ <;> rw [← iZ_0]
  · exact fun z => kt ((iZ_le hx ir0).mp z)
  · exact fun z => kf (by have h1 : ¬ _ := fun q => z ((iZ_le hx ir0).mpr q); omega)
theorem zb_if_eq (hexec : p.tables.exec = Jvm.exec) (hb : c.code = cc) {bb : Bool} {off : Int} {tgt : Nat} (hdg : decode cc pc = .ok (.ifCond .eq off, 3)) (ht : (pc : Int) + off = (tgt : Int))
    (kt : bb = false → W p l e R s m args below meth c H locs cells slots Q (F0 m tgt ls rest)) (kf : bb = true → W p l e R s m args below meth c H locs cells slots Q (F0 m (pc + 3) ls rest)) : W p l e R s m args below meth c H locs cells slots Q (F0 m pc ls (.int (bZ bb) :: rest)) :=
  lv_if_eq hexec hb hdg ht (fun z => kt (bZ_0.mp z)) (fun z => kf (by cases bb with | false => exact absurd (bZ_0.mpr rfl) z | true => rfl))
theorem zb_if_ne (hexec : p.tables.exec = Jvm.exec) (hb : c.code = cc) {bb : Bool} {off : Int} {tgt : Nat} (hdg : decode cc pc = .ok (.ifCond .ne off, 3)) (ht : (pc : Int) + off = (tgt : Int))
    (kt : bb = true → W p l e R s m args below meth c H locs cells slots Q (F0 m tgt ls rest)) (kf : bb = false → W p l e R s m args below meth c H locs cells slots Q (F0 m (pc + 3) ls rest)) : W p l e R s m args below meth c H locs cells slots Q (F0 m pc ls (.int (bZ bb) :: rest)) :=
  lv_if_ne hexec hb hdg ht (fun z => kt (by cases bb with | false => exact absurd (bZ_0.mpr rfl) z | true => rfl)) (fun z => kf (bZ_0.mp z))
end ZZ
