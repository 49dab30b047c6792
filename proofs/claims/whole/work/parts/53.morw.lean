def MoO (O : Nat → Prop) (b : Nat) (ad : Nat → Nat) : Prop := O b ∧ ∀ k, k < 19 → O (ad k)
def snR (N : MoM) : Int := if nSt N = true ∨ (nTa N : Int) = 0 then -1 else 0
def snM (N : MoM) : MoM := if snR N = 0 then (nTa N, nTi N, nId N, nSw N, nLa N, nBu N, true, nA N) else N
def dnR (N : MoM) (p c d r o : Int) : Int := if (p < 2 ∨ 60 < p) ∨ (c < 1 ∨ p < c) ∨ (d < 1 ∨ p < d) ∨ (r < 1 ∨ 10 < r) ∨ (o < -1 ∨ 59 < o) then -1 else if nSt N = true then -1 else if (nTa N : Int) = 6 then -2 else (nTa N : Int)
def dnN (N : MoM) (p c d r o : Int) : MoM := (nTa N + 1, nTi N, nId N, nSw N, nLa N, nBu N, nSt N, va_up (va_up (va_up (va_up (va_up (nA N) 0 (va_up (nA N 0) (nTa N) p)) 1 (va_up (nA N 1) (nTa N) c)) 2 (va_up (nA N 2) (nTa N) d)) 3 (va_up (nA N 3) (nTa N) r)) 4 (va_up (nA N 4) (nTa N) o))
def dnM (N : MoM) (p c d r o : Int) : MoM := if 0 ≤ dnR N p c d r o then dnN N p c d r o else N
/-- a section on the object of a task whose priority is above c -/
def cnI (N : MoM) (i : Nat) (ob c : Int) : Nat → Nat → Bool
  | 0, _ => false
  | f + 1, k => if nA N 7 k = ob ∧ c < nA N 3 i then true else cnI N i ob c f (k + 1)
def cnF (N : MoM) (ob c : Int) : Nat → Nat → Bool
  | 0, _ => false
  | f + 1, i => if cnI N i ob c (nA N 6 i).toNat (i * 3) = true then true else cnF N ob c f (i + 1)
def cnR (N : MoM) (ob c : Int) : Int := if (ob < 0 ∨ 3 < ob) ∨ (c < 1 ∨ 10 < c) ∨ nSt N = true then -1 else if cnF N ob c (nTa N) 0 = true then -1 else 0
def cnN (N : MoM) (ob c : Int) : MoM := if cnR N ob c = 0 then setA N 5 (va_up (nA N 5) ob.toNat c) else N
/-- is a unit of u .. in a section -/
def sxF (N : MoM) (t : Nat) : Nat → Int → Bool
  | 0, _ => false
  | f + 1, u => if 0 ≤ saM N t u then true else sxF N t f (u + 1)
def sxR (N : MoM) (v o x y : Int) : Int :=
  if (o < 0 ∨ 3 < o) ∨ (x < 0 ∨ 59 < x) ∨ (y < 1 ∨ 60 < y) ∨ nSt N = true ∨ (v < 0 ∨ (nTa N : Int) ≤ v) then -1
  else if nA N 1 v.toNat < x + y then -1 else if sxF N v.toNat y.toNat x = true then -1 else if nA N 5 o.toNat < nA N 3 v.toNat then -1 else if nA N 6 v.toNat = 3 then -2 else 0
def sxN (N : MoM) (t : Nat) (o x y : Int) : MoM := (nTa N, nTi N, nId N, nSw N, nLa N, nBu N, nSt N, va_up (va_up (va_up (va_up (nA N) 7 (va_up (nA N 7) (t * 3 + (nA N 6 t).toNat) o)) 8 (va_up (nA N 8) (t * 3 + (nA N 6 t).toNat) x)) 9 (va_up (nA N 9) (t * 3 + (nA N 6 t).toNat) y)) 6 (va_up (nA N 6) t (nA N 6 t + 1)))
def sxM (N : MoM) (v o x y : Int) : MoM := if sxR N v o x y = 0 then sxN N v.toNat o x y else N
/-- a release now -/
def lgM (N : MoM) (t : Nat) : MoM := (nTa N, nTi N, nId N, nSw N, nLa N, nBu N, nSt N, va_up (va_up (va_up (va_up (nA N) 11 (va_up (nA N 11) (t * 8 + (nA N 10 t).toNat) (nTi N))) 10 (va_up (nA N 10) t (nA N 10 t + 1))) 13 (va_up (nA N 13) t (nA N 13 t + 1))) 17 (va_up (nA N 17) t (nTi N)))
def enR (N : MoM) (v : Int) : Int :=
  if nSt N = false ∨ (v < 0 ∨ (nTa N : Int) ≤ v) then -1 else if 0 ≤ nA N 4 v.toNat then -1
  else if 0 < nA N 13 v.toNat ∧ nTi N - nA N 17 v.toNat < nA N 0 v.toNat then -1 else if nA N 10 v.toNat = 8 then -2 else 0
def enM (N : MoM) (v : Int) : MoM := if enR N v = 0 then lgM N v.toNat else N
set_option maxHeartbeats 4000000 in
set_option maxRecDepth 100000 in
theorem c_Mo_start (l : Launch) (g : GG) (w : fw) (sz : Nat) (b : Nat) (ad : Nat → Nat) (N : MoM) (O : Nat → Prop) (tb : Int) (hM : MoP g w b ad N) (hI : MoI N tb) (hO : MoO O b ad) : RWi l y_Mo_start w_Mo_start ({ frames := 0, cells := 0, slots := 0, locals := 0 }) g w sz [.ref b] 0 0 ((fun rr1 w1 => rr1 = iZ (snR N) ∧ MoP g w1 b ad (snM N) ∧ ∀ q, ¬ O q → w1 q = w q)) := by
  refine rw_go (by decide) rfl (Nat.le_of_ble_eq_true rfl) ?_
  intro p e s m below meth c hx hb hr hml hown hts hlocks hin hsz hK hT hA hF ls hl
  subst hsz
  have hown : s.vm.findClass rMo = some m.cls := hown
  have hl : lv_has ls 1 [(0, .ref b)] := hl
  have hI0 := hI
  have hM0 := hM
  obtain ⟨hmo, qa0, qa1, qa2, qa3, qa4, qa5, qa6, qa7, qa8, qa9, qa10, qa11, qa12, qa13, qa14, qa15, qa16, qa17, qa18, hinj⟩ := hM
  obtain ⟨itb, in6, iti, ila, ibu, ice, ion, ifr, ilo, ire, itk⟩ := hI
  refine lv_aload_n hx hb d_Mo_start_0 rfl (lv_at hl 0 rfl) ?_
  refine fw_get (ci := 5) (v := .int (bZ (nSt N))) (C := rMo) (T := fMo) (N := 26) hx hb hts iMo hown hK hF.1 hmo rfl 6 (by decide) (hts _ t_514) (fun _ h9 => h9) rfl d_Mo_start_1 ?_
  refine zb_if_ne (tgt := 14) hx hb d_Mo_start_4 (by decide) (fun c4 => ?_) (fun c4 => ?_)
  · refine lv_iconst (v := iZ (-1)) hx hb d_Mo_start_14 rfl ?_
    exact rw_iret hx hb hr hlocks d_Mo_start_15 (by omega) (by omega) hF ⟨congrArg iZ ((by rw [snR, if_pos (Or.inl c4)] : snR N = -1)).symm, (by rw [snM, if_neg (by rw [(by rw [snR, if_pos (Or.inl c4)] : snR N = -1)]; decide)]; exact hM0), fun q _ => rfl⟩
  · refine lv_aload_n hx hb d_Mo_start_7 rfl (lv_at hl 0 rfl) ?_
    refine fw_get (ci := 5) (v := .int (iZ ((nTa N : Int)))) (C := rMo) (T := fMo) (N := 26) hx hb hts iMo hown hK hF.1 hmo rfl 0 (by decide) (hts _ t_508) (fun _ h9 => h9) rfl d_Mo_start_8 ?_
    refine zz_if_ne (tgt := 16) hx hb d_Mo_start_11 (by decide) ⟨by omega, by omega⟩ (fun c11 => ?_) (fun c11 => ?_)
    · have nz : ¬ (nSt N = true ∨ (nTa N : Int) = 0) := fun q => q.elim (fun z => by rw [c4] at z; cases z) (fun z => c11 z)
      have e0 : snR N = 0 := by rw [snR, if_neg nz]
      refine lv_aload_n hx hb d_Mo_start_16 rfl (lv_at hl 0 rfl) ?_
      refine lv_iconst (v := iZ 1) hx hb d_Mo_start_17 rfl ?_
      refine fw_put (ci := 5) (v := .int (bZ true)) (ty := .boolean) (C := rMo) (T := fMo) (N := 26) hx hb hts iMo yMo_t yMo_ok yMo_nm hown hK hF hmo rfl 6 (by decide) (hts _ t_514) (fun _ h9 => h9) rfl (by decide +kernel) (bZ_nar _) (bZ_fit _) (Nat.le_of_ble_eq_true rfl) d_Mo_start_18 (fun H locs hF => ?_)
      obtain ⟨w1, ew1⟩ : ∃ zw : fw, zw = fU w b (.inr (5, [.int (iZ ((nTa N : Int))), .int (iZ (nTi N)), .int (iZ (nId N)), .int (iZ (nSw N)), .int (iZ (nLa N)), .int (iZ (nBu N)), .int (bZ true), .ref (ad 0), .ref (ad 1), .ref (ad 2), .ref (ad 3), .ref (ad 4), .ref (ad 5), .ref (ad 6), .ref (ad 7), .ref (ad 8), .ref (ad 9), .ref (ad 10), .ref (ad 11), .ref (ad 12), .ref (ad 13), .ref (ad 14), .ref (ad 15), .ref (ad 16), .ref (ad 17), .ref (ad 18)])) := ⟨_, rfl⟩
      have hF := fW_to ew1 hF
      have h2 : w1 b = some (.inr (5, [.int (iZ ((nTa N : Int))), .int (iZ (nTi N)), .int (iZ (nId N)), .int (iZ (nSw N)), .int (iZ (nLa N)), .int (iZ (nBu N)), .int (bZ true), .ref (ad 0), .ref (ad 1), .ref (ad 2), .ref (ad 3), .ref (ad 4), .ref (ad 5), .ref (ad 6), .ref (ad 7), .ref (ad 8), .ref (ad 9), .ref (ad 10), .ref (ad 11), .ref (ad 12), .ref (ad 13), .ref (ad 14), .ref (ad 15), .ref (ad 16), .ref (ad 17), .ref (ad 18)])) := by rw [ew1]; exact fU_s _ _ _
      have h3 : w1 (ad 0) = some (aZ g.2.1 6 (nA N 0)) := by rw [ew1]; exact fU_k (fw_ne qa0 hmo ne_lr) qa0
      have h4 : w1 (ad 1) = some (aZ g.2.1 6 (nA N 1)) := by rw [ew1]; exact fU_k (fw_ne qa1 hmo ne_lr) qa1
      have h5 : w1 (ad 2) = some (aZ g.2.1 6 (nA N 2)) := by rw [ew1]; exact fU_k (fw_ne qa2 hmo ne_lr) qa2
      have h6 : w1 (ad 3) = some (aZ g.2.1 6 (nA N 3)) := by rw [ew1]; exact fU_k (fw_ne qa3 hmo ne_lr) qa3
      have h7 : w1 (ad 4) = some (aZ g.2.1 6 (nA N 4)) := by rw [ew1]; exact fU_k (fw_ne qa4 hmo ne_lr) qa4
      have h8 : w1 (ad 5) = some (aZ g.2.1 4 (nA N 5)) := by rw [ew1]; exact fU_k (fw_ne qa5 hmo ne_lr) qa5
      have h9 : w1 (ad 6) = some (aZ g.2.1 6 (nA N 6)) := by rw [ew1]; exact fU_k (fw_ne qa6 hmo ne_lr) qa6
      have h10 : w1 (ad 7) = some (aZ g.2.1 18 (nA N 7)) := by rw [ew1]; exact fU_k (fw_ne qa7 hmo ne_lr) qa7
      have h11 : w1 (ad 8) = some (aZ g.2.1 18 (nA N 8)) := by rw [ew1]; exact fU_k (fw_ne qa8 hmo ne_lr) qa8
      have h12 : w1 (ad 9) = some (aZ g.2.1 18 (nA N 9)) := by rw [ew1]; exact fU_k (fw_ne qa9 hmo ne_lr) qa9
      have h13 : w1 (ad 10) = some (aZ g.2.1 6 (nA N 10)) := by rw [ew1]; exact fU_k (fw_ne qa10 hmo ne_lr) qa10
      have h14 : w1 (ad 11) = some (aZ g.2.1 48 (nA N 11)) := by rw [ew1]; exact fU_k (fw_ne qa11 hmo ne_lr) qa11
      have h15 : w1 (ad 12) = some (aZ g.2.1 6 (nA N 12)) := by rw [ew1]; exact fU_k (fw_ne qa12 hmo ne_lr) qa12
      have h16 : w1 (ad 13) = some (aZ g.2.1 6 (nA N 13)) := by rw [ew1]; exact fU_k (fw_ne qa13 hmo ne_lr) qa13
      have h17 : w1 (ad 14) = some (aZ g.2.1 6 (nA N 14)) := by rw [ew1]; exact fU_k (fw_ne qa14 hmo ne_lr) qa14
      have h18 : w1 (ad 15) = some (aZ g.2.1 6 (nA N 15)) := by rw [ew1]; exact fU_k (fw_ne qa15 hmo ne_lr) qa15
      have h19 : w1 (ad 16) = some (aZ g.2.1 6 (nA N 16)) := by rw [ew1]; exact fU_k (fw_ne qa16 hmo ne_lr) qa16
      have h20 : w1 (ad 17) = some (aZ g.2.1 6 (nA N 17)) := by rw [ew1]; exact fU_k (fw_ne qa17 hmo ne_lr) qa17
      have h21 : w1 (ad 18) = some (aZ g.2.1 64 (nA N 18)) := by rw [ew1]; exact fU_k (fw_ne qa18 hmo ne_lr) qa18
      refine lv_iconst (v := iZ 0) hx hb d_Mo_start_21 rfl ?_
      exact rw_iret hx hb hr hlocks d_Mo_start_22 (by omega) (by omega) hF ⟨congrArg iZ e0.symm, (by rw [snM, if_pos e0]; exact ⟨h2, h3, h4, h5, h6, h7, h8, h9, h10, h11, h12, h13, h14, h15, h16, h17, h18, h19, h20, h21, hinj⟩), fun q hq => by rw [ew1, fU_n (own_ne hq hO.1)]⟩
    · refine lv_iconst (v := iZ (-1)) hx hb d_Mo_start_14 rfl ?_
      exact rw_iret hx hb hr hlocks d_Mo_start_15 (by omega) (by omega) hF ⟨congrArg iZ ((by rw [snR, if_pos (Or.inr c11)] : snR N = -1)).symm, (by rw [snM, if_neg (by rw [(by rw [snR, if_pos (Or.inr c11)] : snR N = -1)]; decide)]; exact hM0), fun q _ => rfl⟩

set_option maxHeartbeats 4000000 in
set_option maxRecDepth 100000 in
theorem c_Mo_define (l : Launch) (g : GG) (w : fw) (sz : Nat) (b : Nat) (ad : Nat → Nat) (N : MoM) (O : Nat → Prop) (tb : Int) (p1 c1 d1 r1 o1 : Int) (hM : MoP g w b ad N) (hI : MoI N tb) (hO : MoO O b ad) (hr_0 : ir p1) (hr_1 : ir c1) (hr_2 : ir d1) (hr_3 : ir r1) (hr_4 : ir o1) : RWi l y_Mo_define w_Mo_define ({ frames := 1, cells := 0, slots := 0, locals := 23 }) g w sz [.ref b, .int (iZ p1), .int (iZ c1), .int (iZ d1), .int (iZ r1), .int (iZ o1)] 0 0 ((fun rr1 w1 => rr1 = iZ (dnR N p1 c1 d1 r1 o1) ∧ MoP g w1 b ad (dnM N p1 c1 d1 r1 o1) ∧ ∀ q, ¬ O q → w1 q = w q)) := by
  refine rw_go (by decide) rfl (Nat.le_of_ble_eq_true rfl) ?_
  intro p e s m below meth c hx hb hr hml hown hts hlocks hin hsz hK hT hA hF ls hl
  subst hsz
  have hown : s.vm.findClass rMo = some m.cls := hown
  have hl : lv_has ls 6 [(0, .ref b), (1, .int (iZ p1)), (2, .int (iZ c1)), (3, .int (iZ d1)), (4, .int (iZ r1)), (5, .int (iZ o1))] := hl
  have hI0 := hI
  have hM0 := hM
  obtain ⟨hmo, qa0, qa1, qa2, qa3, qa4, qa5, qa6, qa7, qa8, qa9, qa10, qa11, qa12, qa13, qa14, qa15, qa16, qa17, qa18, hinj⟩ := hM
  obtain ⟨itb, in6, iti, ila, ibu, ice, ion, ifr, ilo, ire, itk⟩ := hI
  obtain ⟨hr_0a, hr_0b⟩ := hr_0
  obtain ⟨hr_1a, hr_1b⟩ := hr_1
  obtain ⟨hr_2a, hr_2b⟩ := hr_2
  obtain ⟨hr_3a, hr_3b⟩ := hr_3
  obtain ⟨hr_4a, hr_4b⟩ := hr_4
  refine lv_aload_n hx hb d_Mo_define_0 rfl (lv_at hl 0 rfl) ?_
  refine lv_iload_n hx hb d_Mo_define_1 rfl (lv_at hl 1 rfl) ?_
  refine lv_iconst (v := iZ 2) hx hb d_Mo_define_2 rfl ?_
  refine lv_bipush (v := iZ 60) hx hb d_Mo_define_3 (by decide) ?_
  refine fw_ro (r := .int (bZ (decide (p1 < 2 ∨ 60 < p1)))) (va_runV (As := [.int (iZ p1), .int (iZ 2), .int (iZ 60)]) (rest := []) ⟨hx, hb, hml, hown, hts⟩ (c_Mo_out l g w b ad N tb p1 2 60 hM0 ⟨by omega, by omega⟩ ⟨by omega, by omega⟩ ⟨by omega, by omega⟩) (cwV 3 hts (gdV k_Mo_out t_591 t_593 t_34 t_50) rfl rfl rfl (by decide +kernel) ⟨Nat.le_of_ble_eq_true rfl, Nat.le_of_ble_eq_true rfl⟩) ⟨roP_blind, fw_recv hK hF.1 hmo rfl, roP_pre hK hF.1⟩ rfl rfl hl.1 rfl (lv_room (Nat.le_of_ble_eq_true rfl)) d_Mo_define_5 ⟨by decide, by decide⟩) ?_
  refine zb_if_ne (tgt := 55) hx hb d_Mo_define_8 (by decide) (fun c8 => ?_) (fun c8 => ?_)
  · refine lv_iconst (v := iZ (-1)) hx hb d_Mo_define_55 rfl ?_
    exact rw_iret hx hb hr hlocks d_Mo_define_56 (by omega) (by omega) hF ⟨congrArg iZ ((by rw [dnR, if_pos (Or.inl (of_decide_eq_true c8))] : dnR N p1 c1 d1 r1 o1 = -1)).symm, (by rw [dnM, if_neg (by rw [(by rw [dnR, if_pos (Or.inl (of_decide_eq_true c8))] : dnR N p1 c1 d1 r1 o1 = -1)]; decide)]; exact hM0), fun q _ => rfl⟩
  · refine lv_aload_n hx hb d_Mo_define_11 rfl (lv_at hl 0 rfl) ?_
    refine lv_iload_n hx hb d_Mo_define_12 rfl (lv_at hl 2 rfl) ?_
    refine lv_iconst (v := iZ 1) hx hb d_Mo_define_13 rfl ?_
    refine lv_iload_n hx hb d_Mo_define_14 rfl (lv_at hl 1 rfl) ?_
    refine fw_ro (r := .int (bZ (decide (c1 < 1 ∨ p1 < c1)))) (va_runV (As := [.int (iZ c1), .int (iZ 1), .int (iZ p1)]) (rest := []) ⟨hx, hb, hml, hown, hts⟩ (c_Mo_out l g w b ad N tb c1 1 p1 hM0 ⟨by omega, by omega⟩ ⟨by omega, by omega⟩ ⟨by omega, by omega⟩) (cwV 3 hts (gdV k_Mo_out t_591 t_593 t_34 t_50) rfl rfl rfl (by decide +kernel) ⟨Nat.le_of_ble_eq_true rfl, Nat.le_of_ble_eq_true rfl⟩) ⟨roP_blind, fw_recv hK hF.1 hmo rfl, roP_pre hK hF.1⟩ rfl rfl hl.1 rfl (lv_room (Nat.le_of_ble_eq_true rfl)) d_Mo_define_15 ⟨by decide, by decide⟩) ?_
    refine zb_if_ne (tgt := 55) hx hb d_Mo_define_18 (by decide) (fun c18 => ?_) (fun c18 => ?_)
    · refine lv_iconst (v := iZ (-1)) hx hb d_Mo_define_55 rfl ?_
      exact rw_iret hx hb hr hlocks d_Mo_define_56 (by omega) (by omega) hF ⟨congrArg iZ ((by rw [dnR, if_pos (Or.inr (Or.inl (of_decide_eq_true c18)))] : dnR N p1 c1 d1 r1 o1 = -1)).symm, (by rw [dnM, if_neg (by rw [(by rw [dnR, if_pos (Or.inr (Or.inl (of_decide_eq_true c18)))] : dnR N p1 c1 d1 r1 o1 = -1)]; decide)]; exact hM0), fun q _ => rfl⟩
    · refine lv_aload_n hx hb d_Mo_define_21 rfl (lv_at hl 0 rfl) ?_
      refine lv_iload_n hx hb d_Mo_define_22 rfl (lv_at hl 3 rfl) ?_
      refine lv_iconst (v := iZ 1) hx hb d_Mo_define_23 rfl ?_
      refine lv_iload_n hx hb d_Mo_define_24 rfl (lv_at hl 1 rfl) ?_
      refine fw_ro (r := .int (bZ (decide (d1 < 1 ∨ p1 < d1)))) (va_runV (As := [.int (iZ d1), .int (iZ 1), .int (iZ p1)]) (rest := []) ⟨hx, hb, hml, hown, hts⟩ (c_Mo_out l g w b ad N tb d1 1 p1 hM0 ⟨by omega, by omega⟩ ⟨by omega, by omega⟩ ⟨by omega, by omega⟩) (cwV 3 hts (gdV k_Mo_out t_591 t_593 t_34 t_50) rfl rfl rfl (by decide +kernel) ⟨Nat.le_of_ble_eq_true rfl, Nat.le_of_ble_eq_true rfl⟩) ⟨roP_blind, fw_recv hK hF.1 hmo rfl, roP_pre hK hF.1⟩ rfl rfl hl.1 rfl (lv_room (Nat.le_of_ble_eq_true rfl)) d_Mo_define_25 ⟨by decide, by decide⟩) ?_
      refine zb_if_ne (tgt := 55) hx hb d_Mo_define_28 (by decide) (fun c28 => ?_) (fun c28 => ?_)
      · refine lv_iconst (v := iZ (-1)) hx hb d_Mo_define_55 rfl ?_
        exact rw_iret hx hb hr hlocks d_Mo_define_56 (by omega) (by omega) hF ⟨congrArg iZ ((by rw [dnR, if_pos (Or.inr (Or.inr (Or.inl (of_decide_eq_true c28))))] : dnR N p1 c1 d1 r1 o1 = -1)).symm, (by rw [dnM, if_neg (by rw [(by rw [dnR, if_pos (Or.inr (Or.inr (Or.inl (of_decide_eq_true c28))))] : dnR N p1 c1 d1 r1 o1 = -1)]; decide)]; exact hM0), fun q _ => rfl⟩
      · refine lv_aload_n hx hb d_Mo_define_31 rfl (lv_at hl 0 rfl) ?_
        refine lv_iload hx hb d_Mo_define_32 (lv_at hl 4 rfl) ?_
        refine lv_iconst (v := iZ 1) hx hb d_Mo_define_34 rfl ?_
        refine lv_bipush (v := iZ 10) hx hb d_Mo_define_35 (by decide) ?_
        refine fw_ro (r := .int (bZ (decide (r1 < 1 ∨ 10 < r1)))) (va_runV (As := [.int (iZ r1), .int (iZ 1), .int (iZ 10)]) (rest := []) ⟨hx, hb, hml, hown, hts⟩ (c_Mo_out l g w b ad N tb r1 1 10 hM0 ⟨by omega, by omega⟩ ⟨by omega, by omega⟩ ⟨by omega, by omega⟩) (cwV 3 hts (gdV k_Mo_out t_591 t_593 t_34 t_50) rfl rfl rfl (by decide +kernel) ⟨Nat.le_of_ble_eq_true rfl, Nat.le_of_ble_eq_true rfl⟩) ⟨roP_blind, fw_recv hK hF.1 hmo rfl, roP_pre hK hF.1⟩ rfl rfl hl.1 rfl (lv_room (Nat.le_of_ble_eq_true rfl)) d_Mo_define_37 ⟨by decide, by decide⟩) ?_
        refine zb_if_ne (tgt := 55) hx hb d_Mo_define_40 (by decide) (fun c40 => ?_) (fun c40 => ?_)
        · refine lv_iconst (v := iZ (-1)) hx hb d_Mo_define_55 rfl ?_
          exact rw_iret hx hb hr hlocks d_Mo_define_56 (by omega) (by omega) hF ⟨congrArg iZ ((by rw [dnR, if_pos (Or.inr (Or.inr (Or.inr (Or.inl (of_decide_eq_true c40)))))] : dnR N p1 c1 d1 r1 o1 = -1)).symm, (by rw [dnM, if_neg (by rw [(by rw [dnR, if_pos (Or.inr (Or.inr (Or.inr (Or.inl (of_decide_eq_true c40)))))] : dnR N p1 c1 d1 r1 o1 = -1)]; decide)]; exact hM0), fun q _ => rfl⟩
        · refine lv_aload_n hx hb d_Mo_define_43 rfl (lv_at hl 0 rfl) ?_
          refine lv_iload hx hb d_Mo_define_44 (lv_at hl 5 rfl) ?_
          refine lv_iconst (v := iZ (-1)) hx hb d_Mo_define_46 rfl ?_
          refine lv_bipush (v := iZ 59) hx hb d_Mo_define_47 (by decide) ?_
          refine fw_ro (r := .int (bZ (decide (o1 < -1 ∨ 59 < o1)))) (va_runV (As := [.int (iZ o1), .int (iZ (-1)), .int (iZ 59)]) (rest := []) ⟨hx, hb, hml, hown, hts⟩ (c_Mo_out l g w b ad N tb o1 (-1) 59 hM0 ⟨by omega, by omega⟩ ⟨by omega, by omega⟩ ⟨by omega, by omega⟩) (cwV 3 hts (gdV k_Mo_out t_591 t_593 t_34 t_50) rfl rfl rfl (by decide +kernel) ⟨Nat.le_of_ble_eq_true rfl, Nat.le_of_ble_eq_true rfl⟩) ⟨roP_blind, fw_recv hK hF.1 hmo rfl, roP_pre hK hF.1⟩ rfl rfl hl.1 rfl (lv_room (Nat.le_of_ble_eq_true rfl)) d_Mo_define_49 ⟨by decide, by decide⟩) ?_
          refine zb_if_eq (tgt := 57) hx hb d_Mo_define_52 (by decide) (fun c52 => ?_) (fun c52 => ?_)
          · have nz : ¬ ((p1 < 2 ∨ 60 < p1) ∨ (c1 < 1 ∨ p1 < c1) ∨ (d1 < 1 ∨ p1 < d1) ∨ (r1 < 1 ∨ 10 < r1) ∨ (o1 < -1 ∨ 59 < o1)) := fun z => z.elim (of_decide_eq_false c8) (fun z => z.elim (of_decide_eq_false c18) (fun z => z.elim (of_decide_eq_false c28) (fun z => z.elim (of_decide_eq_false c40) (of_decide_eq_false c52))))
            refine lv_aload_n hx hb d_Mo_define_57 rfl (lv_at hl 0 rfl) ?_
            refine fw_get (ci := 5) (v := .int (bZ (nSt N))) (C := rMo) (T := fMo) (N := 26) hx hb hts iMo hown hK hF.1 hmo rfl 6 (by decide) (hts _ t_514) (fun _ h9 => h9) rfl d_Mo_define_58 ?_
            refine zb_if_eq (tgt := 66) hx hb d_Mo_define_61 (by decide) (fun c61 => ?_) (fun c61 => ?_)
            · refine lv_aload_n hx hb d_Mo_define_66 rfl (lv_at hl 0 rfl) ?_
              refine fw_get (ci := 5) (v := .int (iZ ((nTa N : Int)))) (C := rMo) (T := fMo) (N := 26) hx hb hts iMo hown hK hF.1 hmo rfl 0 (by decide) (hts _ t_508) (fun _ h9 => h9) rfl d_Mo_define_67 ?_
              refine lv_bipush (v := iZ 6) hx hb d_Mo_define_70 (by decide) ?_
              refine zz_icmp_ne (tgt := 78) hx hb d_Mo_define_72 (by decide) ⟨by omega, by omega⟩ ⟨by omega, by omega⟩ (fun c72 => ?_) (fun c72 => ?_)
              · have e0 : dnR N p1 c1 d1 r1 o1 = (nTa N : Int) := by rw [dnR, if_neg nz, if_neg (by rw [c61]; decide), if_neg c72]
                refine lv_aload_n hx hb d_Mo_define_78 rfl (lv_at hl 0 rfl) ?_
                refine fw_get (ci := 5) (v := .ref (ad 0)) (C := rMo) (T := fMo) (N := 26) hx hb hts iMo hown hK hF.1 hmo rfl 7 (by decide) (hts _ t_515) (fun _ h9 => h9) rfl d_Mo_define_79 ?_
                refine lv_aload_n hx hb d_Mo_define_82 rfl (lv_at hl 0 rfl) ?_
                refine fw_get (ci := 5) (v := .int (iZ ((nTa N : Int)))) (C := rMo) (T := fMo) (N := 26) hx hb hts iMo hown hK hF.1 hmo rfl 0 (by decide) (hts _ t_508) (fun _ h9 => h9) rfl d_Mo_define_83 ?_
                refine lv_iload_n hx hb d_Mo_define_86 rfl (lv_at hl 1 rfl) ?_
                refine fw_iast (x := p1) hx hb hK hF qa0 (by decide) (nTa N) rfl (by omega) d_Mo_define_87 (fun H locs hF => ?_)
                obtain ⟨w1, ew1⟩ : ∃ zw : fw, zw = fU w (ad 0) (aZ g.2.1 6 (va_up (nA N 0) (nTa N) p1)) := ⟨_, rfl⟩
                have hF := fW_to ew1 hF
                have h2 : w1 b = some (.inr (5, [.int (iZ ((nTa N : Int))), .int (iZ (nTi N)), .int (iZ (nId N)), .int (iZ (nSw N)), .int (iZ (nLa N)), .int (iZ (nBu N)), .int (bZ (nSt N)), .ref (ad 0), .ref (ad 1), .ref (ad 2), .ref (ad 3), .ref (ad 4), .ref (ad 5), .ref (ad 6), .ref (ad 7), .ref (ad 8), .ref (ad 9), .ref (ad 10), .ref (ad 11), .ref (ad 12), .ref (ad 13), .ref (ad 14), .ref (ad 15), .ref (ad 16), .ref (ad 17), .ref (ad 18)])) := by rw [ew1]; exact fU_k (fw_ne hmo qa0 ne_rl) hmo
                have h3 : w1 (ad 0) = some (aZ g.2.1 6 (va_up (nA N 0) (nTa N) p1)) := by rw [ew1]; exact fU_s _ _ _
                have h4 : w1 (ad 1) = some (aZ g.2.1 6 (nA N 1)) := by rw [ew1]; exact fU_k (hinj 1 0 (by decide) (by decide) (by decide)) qa1
                have h5 : w1 (ad 2) = some (aZ g.2.1 6 (nA N 2)) := by rw [ew1]; exact fU_k (hinj 2 0 (by decide) (by decide) (by decide)) qa2
                have h6 : w1 (ad 3) = some (aZ g.2.1 6 (nA N 3)) := by rw [ew1]; exact fU_k (hinj 3 0 (by decide) (by decide) (by decide)) qa3
                have h7 : w1 (ad 4) = some (aZ g.2.1 6 (nA N 4)) := by rw [ew1]; exact fU_k (hinj 4 0 (by decide) (by decide) (by decide)) qa4
                have h8 : w1 (ad 5) = some (aZ g.2.1 4 (nA N 5)) := by rw [ew1]; exact fU_k (hinj 5 0 (by decide) (by decide) (by decide)) qa5
                have h9 : w1 (ad 6) = some (aZ g.2.1 6 (nA N 6)) := by rw [ew1]; exact fU_k (hinj 6 0 (by decide) (by decide) (by decide)) qa6
                have h10 : w1 (ad 7) = some (aZ g.2.1 18 (nA N 7)) := by rw [ew1]; exact fU_k (hinj 7 0 (by decide) (by decide) (by decide)) qa7
                have h11 : w1 (ad 8) = some (aZ g.2.1 18 (nA N 8)) := by rw [ew1]; exact fU_k (hinj 8 0 (by decide) (by decide) (by decide)) qa8
                have h12 : w1 (ad 9) = some (aZ g.2.1 18 (nA N 9)) := by rw [ew1]; exact fU_k (hinj 9 0 (by decide) (by decide) (by decide)) qa9
                have h13 : w1 (ad 10) = some (aZ g.2.1 6 (nA N 10)) := by rw [ew1]; exact fU_k (hinj 10 0 (by decide) (by decide) (by decide)) qa10
                have h14 : w1 (ad 11) = some (aZ g.2.1 48 (nA N 11)) := by rw [ew1]; exact fU_k (hinj 11 0 (by decide) (by decide) (by decide)) qa11
                have h15 : w1 (ad 12) = some (aZ g.2.1 6 (nA N 12)) := by rw [ew1]; exact fU_k (hinj 12 0 (by decide) (by decide) (by decide)) qa12
                have h16 : w1 (ad 13) = some (aZ g.2.1 6 (nA N 13)) := by rw [ew1]; exact fU_k (hinj 13 0 (by decide) (by decide) (by decide)) qa13
                have h17 : w1 (ad 14) = some (aZ g.2.1 6 (nA N 14)) := by rw [ew1]; exact fU_k (hinj 14 0 (by decide) (by decide) (by decide)) qa14
                have h18 : w1 (ad 15) = some (aZ g.2.1 6 (nA N 15)) := by rw [ew1]; exact fU_k (hinj 15 0 (by decide) (by decide) (by decide)) qa15
                have h19 : w1 (ad 16) = some (aZ g.2.1 6 (nA N 16)) := by rw [ew1]; exact fU_k (hinj 16 0 (by decide) (by decide) (by decide)) qa16
                have h20 : w1 (ad 17) = some (aZ g.2.1 6 (nA N 17)) := by rw [ew1]; exact fU_k (hinj 17 0 (by decide) (by decide) (by decide)) qa17
                have h21 : w1 (ad 18) = some (aZ g.2.1 64 (nA N 18)) := by rw [ew1]; exact fU_k (hinj 18 0 (by decide) (by decide) (by decide)) qa18
                refine lv_aload_n hx hb d_Mo_define_88 rfl (lv_at hl 0 rfl) ?_
                refine fw_get (ci := 5) (v := .ref (ad 1)) (C := rMo) (T := fMo) (N := 26) hx hb hts iMo hown hK hF.1 h2 rfl 8 (by decide) (hts _ t_516) (fun _ h9 => h9) rfl d_Mo_define_89 ?_
                refine lv_aload_n hx hb d_Mo_define_92 rfl (lv_at hl 0 rfl) ?_
                refine fw_get (ci := 5) (v := .int (iZ ((nTa N : Int)))) (C := rMo) (T := fMo) (N := 26) hx hb hts iMo hown hK hF.1 h2 rfl 0 (by decide) (hts _ t_508) (fun _ h9 => h9) rfl d_Mo_define_93 ?_
                refine lv_iload_n hx hb d_Mo_define_96 rfl (lv_at hl 2 rfl) ?_
                refine fw_iast (x := c1) hx hb hK hF h4 (by decide) (nTa N) rfl (by omega) d_Mo_define_97 (fun H locs hF => ?_)
                obtain ⟨w22, ew22⟩ : ∃ zw : fw, zw = fU w1 (ad 1) (aZ g.2.1 6 (va_up (nA N 1) (nTa N) c1)) := ⟨_, rfl⟩
                have hF := fW_to ew22 hF
                have h23 : w22 b = some (.inr (5, [.int (iZ ((nTa N : Int))), .int (iZ (nTi N)), .int (iZ (nId N)), .int (iZ (nSw N)), .int (iZ (nLa N)), .int (iZ (nBu N)), .int (bZ (nSt N)), .ref (ad 0), .ref (ad 1), .ref (ad 2), .ref (ad 3), .ref (ad 4), .ref (ad 5), .ref (ad 6), .ref (ad 7), .ref (ad 8), .ref (ad 9), .ref (ad 10), .ref (ad 11), .ref (ad 12), .ref (ad 13), .ref (ad 14), .ref (ad 15), .ref (ad 16), .ref (ad 17), .ref (ad 18)])) := by rw [ew22]; exact fU_k (fw_ne h2 h4 ne_rl) h2
                have h24 : w22 (ad 0) = some (aZ g.2.1 6 (va_up (nA N 0) (nTa N) p1)) := by rw [ew22]; exact fU_k (hinj 0 1 (by decide) (by decide) (by decide)) h3
                have h25 : w22 (ad 1) = some (aZ g.2.1 6 (va_up (nA N 1) (nTa N) c1)) := by rw [ew22]; exact fU_s _ _ _
                have h26 : w22 (ad 2) = some (aZ g.2.1 6 (nA N 2)) := by rw [ew22]; exact fU_k (hinj 2 1 (by decide) (by decide) (by decide)) h5
                have h27 : w22 (ad 3) = some (aZ g.2.1 6 (nA N 3)) := by rw [ew22]; exact fU_k (hinj 3 1 (by decide) (by decide) (by decide)) h6
                have h28 : w22 (ad 4) = some (aZ g.2.1 6 (nA N 4)) := by rw [ew22]; exact fU_k (hinj 4 1 (by decide) (by decide) (by decide)) h7
                have h29 : w22 (ad 5) = some (aZ g.2.1 4 (nA N 5)) := by rw [ew22]; exact fU_k (hinj 5 1 (by decide) (by decide) (by decide)) h8
                have h30 : w22 (ad 6) = some (aZ g.2.1 6 (nA N 6)) := by rw [ew22]; exact fU_k (hinj 6 1 (by decide) (by decide) (by decide)) h9
                have h31 : w22 (ad 7) = some (aZ g.2.1 18 (nA N 7)) := by rw [ew22]; exact fU_k (hinj 7 1 (by decide) (by decide) (by decide)) h10
                have h32 : w22 (ad 8) = some (aZ g.2.1 18 (nA N 8)) := by rw [ew22]; exact fU_k (hinj 8 1 (by decide) (by decide) (by decide)) h11
                have h33 : w22 (ad 9) = some (aZ g.2.1 18 (nA N 9)) := by rw [ew22]; exact fU_k (hinj 9 1 (by decide) (by decide) (by decide)) h12
                have h34 : w22 (ad 10) = some (aZ g.2.1 6 (nA N 10)) := by rw [ew22]; exact fU_k (hinj 10 1 (by decide) (by decide) (by decide)) h13
                have h35 : w22 (ad 11) = some (aZ g.2.1 48 (nA N 11)) := by rw [ew22]; exact fU_k (hinj 11 1 (by decide) (by decide) (by decide)) h14
                have h36 : w22 (ad 12) = some (aZ g.2.1 6 (nA N 12)) := by rw [ew22]; exact fU_k (hinj 12 1 (by decide) (by decide) (by decide)) h15
                have h37 : w22 (ad 13) = some (aZ g.2.1 6 (nA N 13)) := by rw [ew22]; exact fU_k (hinj 13 1 (by decide) (by decide) (by decide)) h16
                have h38 : w22 (ad 14) = some (aZ g.2.1 6 (nA N 14)) := by rw [ew22]; exact fU_k (hinj 14 1 (by decide) (by decide) (by decide)) h17
                have h39 : w22 (ad 15) = some (aZ g.2.1 6 (nA N 15)) := by rw [ew22]; exact fU_k (hinj 15 1 (by decide) (by decide) (by decide)) h18
                have h40 : w22 (ad 16) = some (aZ g.2.1 6 (nA N 16)) := by rw [ew22]; exact fU_k (hinj 16 1 (by decide) (by decide) (by decide)) h19
                have h41 : w22 (ad 17) = some (aZ g.2.1 6 (nA N 17)) := by rw [ew22]; exact fU_k (hinj 17 1 (by decide) (by decide) (by decide)) h20
                have h42 : w22 (ad 18) = some (aZ g.2.1 64 (nA N 18)) := by rw [ew22]; exact fU_k (hinj 18 1 (by decide) (by decide) (by decide)) h21
                refine lv_aload_n hx hb d_Mo_define_98 rfl (lv_at hl 0 rfl) ?_
                refine fw_get (ci := 5) (v := .ref (ad 2)) (C := rMo) (T := fMo) (N := 26) hx hb hts iMo hown hK hF.1 h23 rfl 9 (by decide) (hts _ t_517) (fun _ h9 => h9) rfl d_Mo_define_99 ?_
                refine lv_aload_n hx hb d_Mo_define_102 rfl (lv_at hl 0 rfl) ?_
                refine fw_get (ci := 5) (v := .int (iZ ((nTa N : Int)))) (C := rMo) (T := fMo) (N := 26) hx hb hts iMo hown hK hF.1 h23 rfl 0 (by decide) (hts _ t_508) (fun _ h9 => h9) rfl d_Mo_define_103 ?_
                refine lv_iload_n hx hb d_Mo_define_106 rfl (lv_at hl 3 rfl) ?_
                refine fw_iast (x := d1) hx hb hK hF h26 (by decide) (nTa N) rfl (by omega) d_Mo_define_107 (fun H locs hF => ?_)
                obtain ⟨w43, ew43⟩ : ∃ zw : fw, zw = fU w22 (ad 2) (aZ g.2.1 6 (va_up (nA N 2) (nTa N) d1)) := ⟨_, rfl⟩
                have hF := fW_to ew43 hF
                have h44 : w43 b = some (.inr (5, [.int (iZ ((nTa N : Int))), .int (iZ (nTi N)), .int (iZ (nId N)), .int (iZ (nSw N)), .int (iZ (nLa N)), .int (iZ (nBu N)), .int (bZ (nSt N)), .ref (ad 0), .ref (ad 1), .ref (ad 2), .ref (ad 3), .ref (ad 4), .ref (ad 5), .ref (ad 6), .ref (ad 7), .ref (ad 8), .ref (ad 9), .ref (ad 10), .ref (ad 11), .ref (ad 12), .ref (ad 13), .ref (ad 14), .ref (ad 15), .ref (ad 16), .ref (ad 17), .ref (ad 18)])) := by rw [ew43]; exact fU_k (fw_ne h23 h26 ne_rl) h23
                have h45 : w43 (ad 0) = some (aZ g.2.1 6 (va_up (nA N 0) (nTa N) p1)) := by rw [ew43]; exact fU_k (hinj 0 2 (by decide) (by decide) (by decide)) h24
                have h46 : w43 (ad 1) = some (aZ g.2.1 6 (va_up (nA N 1) (nTa N) c1)) := by rw [ew43]; exact fU_k (hinj 1 2 (by decide) (by decide) (by decide)) h25
                have h47 : w43 (ad 2) = some (aZ g.2.1 6 (va_up (nA N 2) (nTa N) d1)) := by rw [ew43]; exact fU_s _ _ _
                have h48 : w43 (ad 3) = some (aZ g.2.1 6 (nA N 3)) := by rw [ew43]; exact fU_k (hinj 3 2 (by decide) (by decide) (by decide)) h27
                have h49 : w43 (ad 4) = some (aZ g.2.1 6 (nA N 4)) := by rw [ew43]; exact fU_k (hinj 4 2 (by decide) (by decide) (by decide)) h28
                have h50 : w43 (ad 5) = some (aZ g.2.1 4 (nA N 5)) := by rw [ew43]; exact fU_k (hinj 5 2 (by decide) (by decide) (by decide)) h29
                have h51 : w43 (ad 6) = some (aZ g.2.1 6 (nA N 6)) := by rw [ew43]; exact fU_k (hinj 6 2 (by decide) (by decide) (by decide)) h30
                have h52 : w43 (ad 7) = some (aZ g.2.1 18 (nA N 7)) := by rw [ew43]; exact fU_k (hinj 7 2 (by decide) (by decide) (by decide)) h31
                have h53 : w43 (ad 8) = some (aZ g.2.1 18 (nA N 8)) := by rw [ew43]; exact fU_k (hinj 8 2 (by decide) (by decide) (by decide)) h32
                have h54 : w43 (ad 9) = some (aZ g.2.1 18 (nA N 9)) := by rw [ew43]; exact fU_k (hinj 9 2 (by decide) (by decide) (by decide)) h33
                have h55 : w43 (ad 10) = some (aZ g.2.1 6 (nA N 10)) := by rw [ew43]; exact fU_k (hinj 10 2 (by decide) (by decide) (by decide)) h34
                have h56 : w43 (ad 11) = some (aZ g.2.1 48 (nA N 11)) := by rw [ew43]; exact fU_k (hinj 11 2 (by decide) (by decide) (by decide)) h35
                have h57 : w43 (ad 12) = some (aZ g.2.1 6 (nA N 12)) := by rw [ew43]; exact fU_k (hinj 12 2 (by decide) (by decide) (by decide)) h36
                have h58 : w43 (ad 13) = some (aZ g.2.1 6 (nA N 13)) := by rw [ew43]; exact fU_k (hinj 13 2 (by decide) (by decide) (by decide)) h37
                have h59 : w43 (ad 14) = some (aZ g.2.1 6 (nA N 14)) := by rw [ew43]; exact fU_k (hinj 14 2 (by decide) (by decide) (by decide)) h38
                have h60 : w43 (ad 15) = some (aZ g.2.1 6 (nA N 15)) := by rw [ew43]; exact fU_k (hinj 15 2 (by decide) (by decide) (by decide)) h39
                have h61 : w43 (ad 16) = some (aZ g.2.1 6 (nA N 16)) := by rw [ew43]; exact fU_k (hinj 16 2 (by decide) (by decide) (by decide)) h40
                have h62 : w43 (ad 17) = some (aZ g.2.1 6 (nA N 17)) := by rw [ew43]; exact fU_k (hinj 17 2 (by decide) (by decide) (by decide)) h41
                have h63 : w43 (ad 18) = some (aZ g.2.1 64 (nA N 18)) := by rw [ew43]; exact fU_k (hinj 18 2 (by decide) (by decide) (by decide)) h42
                refine lv_aload_n hx hb d_Mo_define_108 rfl (lv_at hl 0 rfl) ?_
                refine fw_get (ci := 5) (v := .ref (ad 3)) (C := rMo) (T := fMo) (N := 26) hx hb hts iMo hown hK hF.1 h44 rfl 10 (by decide) (hts _ t_518) (fun _ h9 => h9) rfl d_Mo_define_109 ?_
                refine lv_aload_n hx hb d_Mo_define_112 rfl (lv_at hl 0 rfl) ?_
                refine fw_get (ci := 5) (v := .int (iZ ((nTa N : Int)))) (C := rMo) (T := fMo) (N := 26) hx hb hts iMo hown hK hF.1 h44 rfl 0 (by decide) (hts _ t_508) (fun _ h9 => h9) rfl d_Mo_define_113 ?_
                refine lv_iload hx hb d_Mo_define_116 (lv_at hl 4 rfl) ?_
                refine fw_iast (x := r1) hx hb hK hF h48 (by decide) (nTa N) rfl (by omega) d_Mo_define_118 (fun H locs hF => ?_)
                obtain ⟨w64, ew64⟩ : ∃ zw : fw, zw = fU w43 (ad 3) (aZ g.2.1 6 (va_up (nA N 3) (nTa N) r1)) := ⟨_, rfl⟩
                have hF := fW_to ew64 hF
                have h65 : w64 b = some (.inr (5, [.int (iZ ((nTa N : Int))), .int (iZ (nTi N)), .int (iZ (nId N)), .int (iZ (nSw N)), .int (iZ (nLa N)), .int (iZ (nBu N)), .int (bZ (nSt N)), .ref (ad 0), .ref (ad 1), .ref (ad 2), .ref (ad 3), .ref (ad 4), .ref (ad 5), .ref (ad 6), .ref (ad 7), .ref (ad 8), .ref (ad 9), .ref (ad 10), .ref (ad 11), .ref (ad 12), .ref (ad 13), .ref (ad 14), .ref (ad 15), .ref (ad 16), .ref (ad 17), .ref (ad 18)])) := by rw [ew64]; exact fU_k (fw_ne h44 h48 ne_rl) h44
                have h66 : w64 (ad 0) = some (aZ g.2.1 6 (va_up (nA N 0) (nTa N) p1)) := by rw [ew64]; exact fU_k (hinj 0 3 (by decide) (by decide) (by decide)) h45
                have h67 : w64 (ad 1) = some (aZ g.2.1 6 (va_up (nA N 1) (nTa N) c1)) := by rw [ew64]; exact fU_k (hinj 1 3 (by decide) (by decide) (by decide)) h46
                have h68 : w64 (ad 2) = some (aZ g.2.1 6 (va_up (nA N 2) (nTa N) d1)) := by rw [ew64]; exact fU_k (hinj 2 3 (by decide) (by decide) (by decide)) h47
                have h69 : w64 (ad 3) = some (aZ g.2.1 6 (va_up (nA N 3) (nTa N) r1)) := by rw [ew64]; exact fU_s _ _ _
                have h70 : w64 (ad 4) = some (aZ g.2.1 6 (nA N 4)) := by rw [ew64]; exact fU_k (hinj 4 3 (by decide) (by decide) (by decide)) h49
                have h71 : w64 (ad 5) = some (aZ g.2.1 4 (nA N 5)) := by rw [ew64]; exact fU_k (hinj 5 3 (by decide) (by decide) (by decide)) h50
                have h72 : w64 (ad 6) = some (aZ g.2.1 6 (nA N 6)) := by rw [ew64]; exact fU_k (hinj 6 3 (by decide) (by decide) (by decide)) h51
                have h73 : w64 (ad 7) = some (aZ g.2.1 18 (nA N 7)) := by rw [ew64]; exact fU_k (hinj 7 3 (by decide) (by decide) (by decide)) h52
                have h74 : w64 (ad 8) = some (aZ g.2.1 18 (nA N 8)) := by rw [ew64]; exact fU_k (hinj 8 3 (by decide) (by decide) (by decide)) h53
                have h75 : w64 (ad 9) = some (aZ g.2.1 18 (nA N 9)) := by rw [ew64]; exact fU_k (hinj 9 3 (by decide) (by decide) (by decide)) h54
                have h76 : w64 (ad 10) = some (aZ g.2.1 6 (nA N 10)) := by rw [ew64]; exact fU_k (hinj 10 3 (by decide) (by decide) (by decide)) h55
                have h77 : w64 (ad 11) = some (aZ g.2.1 48 (nA N 11)) := by rw [ew64]; exact fU_k (hinj 11 3 (by decide) (by decide) (by decide)) h56
                have h78 : w64 (ad 12) = some (aZ g.2.1 6 (nA N 12)) := by rw [ew64]; exact fU_k (hinj 12 3 (by decide) (by decide) (by decide)) h57
                have h79 : w64 (ad 13) = some (aZ g.2.1 6 (nA N 13)) := by rw [ew64]; exact fU_k (hinj 13 3 (by decide) (by decide) (by decide)) h58
                have h80 : w64 (ad 14) = some (aZ g.2.1 6 (nA N 14)) := by rw [ew64]; exact fU_k (hinj 14 3 (by decide) (by decide) (by decide)) h59
                have h81 : w64 (ad 15) = some (aZ g.2.1 6 (nA N 15)) := by rw [ew64]; exact fU_k (hinj 15 3 (by decide) (by decide) (by decide)) h60
                have h82 : w64 (ad 16) = some (aZ g.2.1 6 (nA N 16)) := by rw [ew64]; exact fU_k (hinj 16 3 (by decide) (by decide) (by decide)) h61
                have h83 : w64 (ad 17) = some (aZ g.2.1 6 (nA N 17)) := by rw [ew64]; exact fU_k (hinj 17 3 (by decide) (by decide) (by decide)) h62
                have h84 : w64 (ad 18) = some (aZ g.2.1 64 (nA N 18)) := by rw [ew64]; exact fU_k (hinj 18 3 (by decide) (by decide) (by decide)) h63
                refine lv_aload_n hx hb d_Mo_define_119 rfl (lv_at hl 0 rfl) ?_
                refine fw_get (ci := 5) (v := .ref (ad 4)) (C := rMo) (T := fMo) (N := 26) hx hb hts iMo hown hK hF.1 h65 rfl 11 (by decide) (hts _ t_519) (fun _ h9 => h9) rfl d_Mo_define_120 ?_
                refine lv_aload_n hx hb d_Mo_define_123 rfl (lv_at hl 0 rfl) ?_
                refine fw_get (ci := 5) (v := .int (iZ ((nTa N : Int)))) (C := rMo) (T := fMo) (N := 26) hx hb hts iMo hown hK hF.1 h65 rfl 0 (by decide) (hts _ t_508) (fun _ h9 => h9) rfl d_Mo_define_124 ?_
                refine lv_iload hx hb d_Mo_define_127 (lv_at hl 5 rfl) ?_
                refine fw_iast (x := o1) hx hb hK hF h70 (by decide) (nTa N) rfl (by omega) d_Mo_define_129 (fun H locs hF => ?_)
                obtain ⟨w85, ew85⟩ : ∃ zw : fw, zw = fU w64 (ad 4) (aZ g.2.1 6 (va_up (nA N 4) (nTa N) o1)) := ⟨_, rfl⟩
                have hF := fW_to ew85 hF
                have h86 : w85 b = some (.inr (5, [.int (iZ ((nTa N : Int))), .int (iZ (nTi N)), .int (iZ (nId N)), .int (iZ (nSw N)), .int (iZ (nLa N)), .int (iZ (nBu N)), .int (bZ (nSt N)), .ref (ad 0), .ref (ad 1), .ref (ad 2), .ref (ad 3), .ref (ad 4), .ref (ad 5), .ref (ad 6), .ref (ad 7), .ref (ad 8), .ref (ad 9), .ref (ad 10), .ref (ad 11), .ref (ad 12), .ref (ad 13), .ref (ad 14), .ref (ad 15), .ref (ad 16), .ref (ad 17), .ref (ad 18)])) := by rw [ew85]; exact fU_k (fw_ne h65 h70 ne_rl) h65
                have h87 : w85 (ad 0) = some (aZ g.2.1 6 (va_up (nA N 0) (nTa N) p1)) := by rw [ew85]; exact fU_k (hinj 0 4 (by decide) (by decide) (by decide)) h66
                have h88 : w85 (ad 1) = some (aZ g.2.1 6 (va_up (nA N 1) (nTa N) c1)) := by rw [ew85]; exact fU_k (hinj 1 4 (by decide) (by decide) (by decide)) h67
                have h89 : w85 (ad 2) = some (aZ g.2.1 6 (va_up (nA N 2) (nTa N) d1)) := by rw [ew85]; exact fU_k (hinj 2 4 (by decide) (by decide) (by decide)) h68
                have h90 : w85 (ad 3) = some (aZ g.2.1 6 (va_up (nA N 3) (nTa N) r1)) := by rw [ew85]; exact fU_k (hinj 3 4 (by decide) (by decide) (by decide)) h69
                have h91 : w85 (ad 4) = some (aZ g.2.1 6 (va_up (nA N 4) (nTa N) o1)) := by rw [ew85]; exact fU_s _ _ _
                have h92 : w85 (ad 5) = some (aZ g.2.1 4 (nA N 5)) := by rw [ew85]; exact fU_k (hinj 5 4 (by decide) (by decide) (by decide)) h71
                have h93 : w85 (ad 6) = some (aZ g.2.1 6 (nA N 6)) := by rw [ew85]; exact fU_k (hinj 6 4 (by decide) (by decide) (by decide)) h72
                have h94 : w85 (ad 7) = some (aZ g.2.1 18 (nA N 7)) := by rw [ew85]; exact fU_k (hinj 7 4 (by decide) (by decide) (by decide)) h73
                have h95 : w85 (ad 8) = some (aZ g.2.1 18 (nA N 8)) := by rw [ew85]; exact fU_k (hinj 8 4 (by decide) (by decide) (by decide)) h74
                have h96 : w85 (ad 9) = some (aZ g.2.1 18 (nA N 9)) := by rw [ew85]; exact fU_k (hinj 9 4 (by decide) (by decide) (by decide)) h75
                have h97 : w85 (ad 10) = some (aZ g.2.1 6 (nA N 10)) := by rw [ew85]; exact fU_k (hinj 10 4 (by decide) (by decide) (by decide)) h76
                have h98 : w85 (ad 11) = some (aZ g.2.1 48 (nA N 11)) := by rw [ew85]; exact fU_k (hinj 11 4 (by decide) (by decide) (by decide)) h77
                have h99 : w85 (ad 12) = some (aZ g.2.1 6 (nA N 12)) := by rw [ew85]; exact fU_k (hinj 12 4 (by decide) (by decide) (by decide)) h78
                have h100 : w85 (ad 13) = some (aZ g.2.1 6 (nA N 13)) := by rw [ew85]; exact fU_k (hinj 13 4 (by decide) (by decide) (by decide)) h79
                have h101 : w85 (ad 14) = some (aZ g.2.1 6 (nA N 14)) := by rw [ew85]; exact fU_k (hinj 14 4 (by decide) (by decide) (by decide)) h80
                have h102 : w85 (ad 15) = some (aZ g.2.1 6 (nA N 15)) := by rw [ew85]; exact fU_k (hinj 15 4 (by decide) (by decide) (by decide)) h81
                have h103 : w85 (ad 16) = some (aZ g.2.1 6 (nA N 16)) := by rw [ew85]; exact fU_k (hinj 16 4 (by decide) (by decide) (by decide)) h82
                have h104 : w85 (ad 17) = some (aZ g.2.1 6 (nA N 17)) := by rw [ew85]; exact fU_k (hinj 17 4 (by decide) (by decide) (by decide)) h83
                have h105 : w85 (ad 18) = some (aZ g.2.1 64 (nA N 18)) := by rw [ew85]; exact fU_k (hinj 18 4 (by decide) (by decide) (by decide)) h84
                refine lv_aload_n hx hb d_Mo_define_130 rfl (lv_at hl 0 rfl) ?_
                refine lv_dup hx hb d_Mo_define_131 rfl ?_
                refine fw_get (ci := 5) (v := .int (iZ ((nTa N : Int)))) (C := rMo) (T := fMo) (N := 26) hx hb hts iMo hown hK hF.1 h86 rfl 0 (by decide) (hts _ t_508) (fun _ h9 => h9) rfl d_Mo_define_132 ?_
                refine lv_iconst (v := iZ 1) hx hb d_Mo_define_135 rfl ?_
                refine zz_iadd hx hb d_Mo_define_136 ?_
                refine fw_put (ci := 5) (v := .int (iZ (((nTa N : Int)) + 1))) (ty := .int) (C := rMo) (T := fMo) (N := 26) hx hb hts iMo yMo_t yMo_ok yMo_nm hown hK hF h86 rfl 0 (by decide) (hts _ t_508) (fun _ h9 => h9) rfl (by decide +kernel) rfl rfl (Nat.le_of_ble_eq_true rfl) d_Mo_define_137 (fun H locs hF => ?_)
                obtain ⟨w106, ew106⟩ : ∃ zw : fw, zw = fU w85 b (.inr (5, [.int (iZ (((nTa N : Int)) + 1)), .int (iZ (nTi N)), .int (iZ (nId N)), .int (iZ (nSw N)), .int (iZ (nLa N)), .int (iZ (nBu N)), .int (bZ (nSt N)), .ref (ad 0), .ref (ad 1), .ref (ad 2), .ref (ad 3), .ref (ad 4), .ref (ad 5), .ref (ad 6), .ref (ad 7), .ref (ad 8), .ref (ad 9), .ref (ad 10), .ref (ad 11), .ref (ad 12), .ref (ad 13), .ref (ad 14), .ref (ad 15), .ref (ad 16), .ref (ad 17), .ref (ad 18)])) := ⟨_, rfl⟩
                have hF := fW_to ew106 hF
                have h107 : w106 b = some (.inr (5, [.int (iZ (((nTa N : Int)) + 1)), .int (iZ (nTi N)), .int (iZ (nId N)), .int (iZ (nSw N)), .int (iZ (nLa N)), .int (iZ (nBu N)), .int (bZ (nSt N)), .ref (ad 0), .ref (ad 1), .ref (ad 2), .ref (ad 3), .ref (ad 4), .ref (ad 5), .ref (ad 6), .ref (ad 7), .ref (ad 8), .ref (ad 9), .ref (ad 10), .ref (ad 11), .ref (ad 12), .ref (ad 13), .ref (ad 14), .ref (ad 15), .ref (ad 16), .ref (ad 17), .ref (ad 18)])) := by rw [ew106]; exact fU_s _ _ _
                have h108 : w106 (ad 0) = some (aZ g.2.1 6 (va_up (nA N 0) (nTa N) p1)) := by rw [ew106]; exact fU_k (fw_ne h87 h86 ne_lr) h87
                have h109 : w106 (ad 1) = some (aZ g.2.1 6 (va_up (nA N 1) (nTa N) c1)) := by rw [ew106]; exact fU_k (fw_ne h88 h86 ne_lr) h88
                have h110 : w106 (ad 2) = some (aZ g.2.1 6 (va_up (nA N 2) (nTa N) d1)) := by rw [ew106]; exact fU_k (fw_ne h89 h86 ne_lr) h89
                have h111 : w106 (ad 3) = some (aZ g.2.1 6 (va_up (nA N 3) (nTa N) r1)) := by rw [ew106]; exact fU_k (fw_ne h90 h86 ne_lr) h90
                have h112 : w106 (ad 4) = some (aZ g.2.1 6 (va_up (nA N 4) (nTa N) o1)) := by rw [ew106]; exact fU_k (fw_ne h91 h86 ne_lr) h91
                have h113 : w106 (ad 5) = some (aZ g.2.1 4 (nA N 5)) := by rw [ew106]; exact fU_k (fw_ne h92 h86 ne_lr) h92
                have h114 : w106 (ad 6) = some (aZ g.2.1 6 (nA N 6)) := by rw [ew106]; exact fU_k (fw_ne h93 h86 ne_lr) h93
                have h115 : w106 (ad 7) = some (aZ g.2.1 18 (nA N 7)) := by rw [ew106]; exact fU_k (fw_ne h94 h86 ne_lr) h94
                have h116 : w106 (ad 8) = some (aZ g.2.1 18 (nA N 8)) := by rw [ew106]; exact fU_k (fw_ne h95 h86 ne_lr) h95
                have h117 : w106 (ad 9) = some (aZ g.2.1 18 (nA N 9)) := by rw [ew106]; exact fU_k (fw_ne h96 h86 ne_lr) h96
                have h118 : w106 (ad 10) = some (aZ g.2.1 6 (nA N 10)) := by rw [ew106]; exact fU_k (fw_ne h97 h86 ne_lr) h97
                have h119 : w106 (ad 11) = some (aZ g.2.1 48 (nA N 11)) := by rw [ew106]; exact fU_k (fw_ne h98 h86 ne_lr) h98
                have h120 : w106 (ad 12) = some (aZ g.2.1 6 (nA N 12)) := by rw [ew106]; exact fU_k (fw_ne h99 h86 ne_lr) h99
                have h121 : w106 (ad 13) = some (aZ g.2.1 6 (nA N 13)) := by rw [ew106]; exact fU_k (fw_ne h100 h86 ne_lr) h100
                have h122 : w106 (ad 14) = some (aZ g.2.1 6 (nA N 14)) := by rw [ew106]; exact fU_k (fw_ne h101 h86 ne_lr) h101
                have h123 : w106 (ad 15) = some (aZ g.2.1 6 (nA N 15)) := by rw [ew106]; exact fU_k (fw_ne h102 h86 ne_lr) h102
                have h124 : w106 (ad 16) = some (aZ g.2.1 6 (nA N 16)) := by rw [ew106]; exact fU_k (fw_ne h103 h86 ne_lr) h103
                have h125 : w106 (ad 17) = some (aZ g.2.1 6 (nA N 17)) := by rw [ew106]; exact fU_k (fw_ne h104 h86 ne_lr) h104
                have h126 : w106 (ad 18) = some (aZ g.2.1 64 (nA N 18)) := by rw [ew106]; exact fU_k (fw_ne h105 h86 ne_lr) h105
                refine lv_aload_n hx hb d_Mo_define_140 rfl (lv_at hl 0 rfl) ?_
                refine fw_get (ci := 5) (v := .int (iZ (((nTa N : Int)) + 1))) (C := rMo) (T := fMo) (N := 26) hx hb hts iMo hown hK hF.1 h107 rfl 0 (by decide) (hts _ t_508) (fun _ h9 => h9) rfl d_Mo_define_141 ?_
                refine lv_iconst (v := iZ 1) hx hb d_Mo_define_144 rfl ?_
                refine zz_isub hx hb d_Mo_define_145 ?_
                exact rw_iret hx hb hr hlocks d_Mo_define_146 (by omega) (by omega) hF ⟨congrArg iZ (by rw [e0]; omega), (by rw [dnM, if_pos (by rw [e0]; omega)]; exact ⟨h107, h108, h109, h110, h111, h112, h113, h114, h115, h116, h117, h118, h119, h120, h121, h122, h123, h124, h125, h126, hinj⟩), fun q hq => by rw [ew106, fU_n (own_ne hq hO.1), ew85, fU_n (own_ne hq (hO.2 4 (by decide))), ew64, fU_n (own_ne hq (hO.2 3 (by decide))), ew43, fU_n (own_ne hq (hO.2 2 (by decide))), ew22, fU_n (own_ne hq (hO.2 1 (by decide))), ew1, fU_n (own_ne hq (hO.2 0 (by decide)))]⟩
              · refine lv_bipush (v := iZ (-2)) hx hb d_Mo_define_75 (by decide) ?_
                exact rw_iret hx hb hr hlocks d_Mo_define_77 (by omega) (by omega) hF ⟨congrArg iZ ((by rw [dnR, if_neg nz, if_neg (by rw [c61]; decide), if_pos c72] : dnR N p1 c1 d1 r1 o1 = -2)).symm, (by rw [dnM, if_neg (by rw [(by rw [dnR, if_neg nz, if_neg (by rw [c61]; decide), if_pos c72] : dnR N p1 c1 d1 r1 o1 = -2)]; decide)]; exact hM0), fun q _ => rfl⟩
            · refine lv_iconst (v := iZ (-1)) hx hb d_Mo_define_64 rfl ?_
              exact rw_iret hx hb hr hlocks d_Mo_define_65 (by omega) (by omega) hF ⟨congrArg iZ ((by rw [dnR, if_neg nz, if_pos c61] : dnR N p1 c1 d1 r1 o1 = -1)).symm, (by rw [dnM, if_neg (by rw [(by rw [dnR, if_neg nz, if_pos c61] : dnR N p1 c1 d1 r1 o1 = -1)]; decide)]; exact hM0), fun q _ => rfl⟩
          · refine lv_iconst (v := iZ (-1)) hx hb d_Mo_define_55 rfl ?_
            exact rw_iret hx hb hr hlocks d_Mo_define_56 (by omega) (by omega) hF ⟨congrArg iZ ((by rw [dnR, if_pos (Or.inr (Or.inr (Or.inr (Or.inr (of_decide_eq_true c52)))))] : dnR N p1 c1 d1 r1 o1 = -1)).symm, (by rw [dnM, if_neg (by rw [(by rw [dnR, if_pos (Or.inr (Or.inr (Or.inr (Or.inr (of_decide_eq_true c52)))))] : dnR N p1 c1 d1 r1 o1 = -1)]; decide)]; exact hM0), fun q _ => rfl⟩

set_option maxHeartbeats 4000000 in
set_option maxRecDepth 100000 in
theorem c_Mo_ceiling (l : Launch) (g : GG) (w : fw) (sz : Nat) (b : Nat) (ad : Nat → Nat) (N : MoM) (O : Nat → Prop) (tb : Int) (ob c1 : Int) (hM : MoP g w b ad N) (hI : MoI N tb) (hO : MoO O b ad) (hr_0 : ir ob) (hr_1 : ir c1) : RWi l y_Mo_ceiling w_Mo_ceiling ({ frames := 1, cells := 0, slots := 0, locals := 23 }) g w sz [.ref b, .int (iZ ob), .int (iZ c1)] 0 0 ((fun rr1 w1 => rr1 = iZ (cnR N ob c1) ∧ MoP g w1 b ad (cnN N ob c1) ∧ ∀ q, ¬ O q → w1 q = w q)) := by
  refine rw_go (by decide) rfl (Nat.le_of_ble_eq_true rfl) ?_
  intro p e s m below meth c hx hb hr hml hown hts hlocks hin hsz hK hT hA hF ls hl
  subst hsz
  have hown : s.vm.findClass rMo = some m.cls := hown
  have hl : lv_has ls 5 [(0, .ref b), (1, .int (iZ ob)), (2, .int (iZ c1))] := hl
  have hI0 := hI
  have hM0 := hM
  obtain ⟨hmo, qa0, qa1, qa2, qa3, qa4, qa5, qa6, qa7, qa8, qa9, qa10, qa11, qa12, qa13, qa14, qa15, qa16, qa17, qa18, hinj⟩ := hM
  obtain ⟨itb, in6, iti, ila, ibu, ice, ion, ifr, ilo, ire, itk⟩ := hI
  obtain ⟨hr_0a, hr_0b⟩ := hr_0
  obtain ⟨hr_1a, hr_1b⟩ := hr_1
  refine lv_aload_n hx hb d_Mo_ceiling_0 rfl (lv_at hl 0 rfl) ?_
  refine lv_iload_n hx hb d_Mo_ceiling_1 rfl (lv_at hl 1 rfl) ?_
  refine lv_iconst (v := iZ 0) hx hb d_Mo_ceiling_2 rfl ?_
  refine lv_iconst (v := iZ 3) hx hb d_Mo_ceiling_3 rfl ?_
  refine fw_ro (r := .int (bZ (decide (ob < 0 ∨ 3 < ob)))) (va_runV (As := [.int (iZ ob), .int (iZ 0), .int (iZ 3)]) (rest := []) ⟨hx, hb, hml, hown, hts⟩ (c_Mo_out l g w b ad N tb ob 0 3 hM0 ⟨by omega, by omega⟩ ⟨by omega, by omega⟩ ⟨by omega, by omega⟩) (cwV 3 hts (gdV k_Mo_out t_591 t_593 t_34 t_50) rfl rfl rfl (by decide +kernel) ⟨Nat.le_of_ble_eq_true rfl, Nat.le_of_ble_eq_true rfl⟩) ⟨roP_blind, fw_recv hK hF.1 hmo rfl, roP_pre hK hF.1⟩ rfl rfl hl.1 rfl (lv_room (Nat.le_of_ble_eq_true rfl)) d_Mo_ceiling_4 ⟨by decide, by decide⟩) ?_
  refine zb_if_ne (tgt := 28) hx hb d_Mo_ceiling_7 (by decide) (fun c7 => ?_) (fun c7 => ?_)
  · refine lv_iconst (v := iZ (-1)) hx hb d_Mo_ceiling_28 rfl ?_
    exact rw_iret hx hb hr hlocks d_Mo_ceiling_29 (by omega) (by omega) hF ⟨congrArg iZ ((by rw [cnR, if_pos (Or.inl (of_decide_eq_true c7))] : cnR N ob c1 = -1)).symm, (by rw [cnN, if_neg (by rw [(by rw [cnR, if_pos (Or.inl (of_decide_eq_true c7))] : cnR N ob c1 = -1)]; decide)]; exact hM0), fun q _ => rfl⟩
  · refine lv_aload_n hx hb d_Mo_ceiling_10 rfl (lv_at hl 0 rfl) ?_
    refine lv_iload_n hx hb d_Mo_ceiling_11 rfl (lv_at hl 2 rfl) ?_
    refine lv_iconst (v := iZ 1) hx hb d_Mo_ceiling_12 rfl ?_
    refine lv_bipush (v := iZ 10) hx hb d_Mo_ceiling_13 (by decide) ?_
    refine fw_ro (r := .int (bZ (decide (c1 < 1 ∨ 10 < c1)))) (va_runV (As := [.int (iZ c1), .int (iZ 1), .int (iZ 10)]) (rest := []) ⟨hx, hb, hml, hown, hts⟩ (c_Mo_out l g w b ad N tb c1 1 10 hM0 ⟨by omega, by omega⟩ ⟨by omega, by omega⟩ ⟨by omega, by omega⟩) (cwV 3 hts (gdV k_Mo_out t_591 t_593 t_34 t_50) rfl rfl rfl (by decide +kernel) ⟨Nat.le_of_ble_eq_true rfl, Nat.le_of_ble_eq_true rfl⟩) ⟨roP_blind, fw_recv hK hF.1 hmo rfl, roP_pre hK hF.1⟩ rfl rfl hl.1 rfl (lv_room (Nat.le_of_ble_eq_true rfl)) d_Mo_ceiling_15 ⟨by decide, by decide⟩) ?_
    refine zb_if_ne (tgt := 28) hx hb d_Mo_ceiling_18 (by decide) (fun c18 => ?_) (fun c18 => ?_)
    · refine lv_iconst (v := iZ (-1)) hx hb d_Mo_ceiling_28 rfl ?_
      exact rw_iret hx hb hr hlocks d_Mo_ceiling_29 (by omega) (by omega) hF ⟨congrArg iZ ((by rw [cnR, if_pos (Or.inr (Or.inl (of_decide_eq_true c18)))] : cnR N ob c1 = -1)).symm, (by rw [cnN, if_neg (by rw [(by rw [cnR, if_pos (Or.inr (Or.inl (of_decide_eq_true c18)))] : cnR N ob c1 = -1)]; decide)]; exact hM0), fun q _ => rfl⟩
    · refine lv_aload_n hx hb d_Mo_ceiling_21 rfl (lv_at hl 0 rfl) ?_
      refine fw_get (ci := 5) (v := .int (bZ (nSt N))) (C := rMo) (T := fMo) (N := 26) hx hb hts iMo hown hK hF.1 hmo rfl 6 (by decide) (hts _ t_514) (fun _ h9 => h9) rfl d_Mo_ceiling_22 ?_
      refine zb_if_eq (tgt := 30) hx hb d_Mo_ceiling_25 (by decide) (fun c25 => ?_) (fun c25 => ?_)
      · have n7 := of_decide_eq_false c7
        have n18 := of_decide_eq_false c18
        have nz : ¬ ((ob < 0 ∨ 3 < ob) ∨ (c1 < 1 ∨ 10 < c1) ∨ nSt N = true) := fun z => z.elim n7 (fun z => z.elim n18 (fun z => by rw [c25] at z; cases z))
        refine lv_iconst (v := iZ 0) hx hb d_Mo_ceiling_30 rfl ?_
        refine lv_istore_n (lv' := [(3, .int (iZ 0)), (0, .ref b), (1, .int (iZ ob)), (2, .int (iZ c1))]) hx hb d_Mo_ceiling_31 rfl hl (by decide) rfl (fun ls hl => ?_)
        have lp : ∀ (f i : Nat), i + f = nTa N → (cnF N ob c1 (nTa N) 0 = cnF N ob c1 f i) → ∀ ls : Array Slot, lv_has ls 5 [(3, .int (iZ ((i : Int)))), (0, .ref b), (1, .int (iZ ob)), (2, .int (iZ c1))] → W p l e ({ frames := 1, cells := 0, slots := 0, locals := 23 }) s m ([.ref b, .int (iZ ob), .int (iZ c1)] : List Value).toArray below meth c s.heap [] 0 0 (MQ below (va_Qi ((fun rr1 w1 => rr1 = iZ (cnR N ob c1) ∧ MoP g w1 b ad (cnN N ob c1) ∧ ∀ q, ¬ O q → w1 q = w q)) (rwB g w s.heap.size) (fA w s.heap.size)) ([.ref b, .int (iZ ob), .int (iZ c1)] : List Value).toArray s 0 0 (fA w s.heap.size)) (F0 m 32 ls []) := by
          intro f
          induction f with
          | zero =>
            intro i hif hv ls hl
            refine lv_iload_n hx hb d_Mo_ceiling_32 rfl (lv_at hl 0 rfl) ?_
            refine lv_aload_n hx hb d_Mo_ceiling_33 rfl (lv_at hl 1 rfl) ?_
            refine fw_get (ci := 5) (v := .int (iZ ((nTa N : Int)))) (C := rMo) (T := fMo) (N := 26) hx hb hts iMo hown hK hF.1 hmo rfl 0 (by decide) (hts _ t_508) (fun _ h9 => h9) rfl d_Mo_ceiling_34 ?_
            refine zz_icmp_ge (tgt := 95) hx hb d_Mo_ceiling_37 (by decide) ⟨by omega, by omega⟩ ⟨by omega, by omega⟩ (fun c37 => ?_) (fun c37 => ?_)
            · have e0 : cnR N ob c1 = 0 := by rw [cnR, if_neg nz, if_neg (by rw [hv]; exact Bool.false_ne_true)]
              refine lv_aload_n hx hb d_Mo_ceiling_95 rfl (lv_at hl 1 rfl) ?_
              refine fw_get (ci := 5) (v := .ref (ad 5)) (C := rMo) (T := fMo) (N := 26) hx hb hts iMo hown hK hF.1 hmo rfl 12 (by decide) (hts _ t_520) (fun _ h9 => h9) rfl d_Mo_ceiling_96 ?_
              refine lv_iload_n hx hb d_Mo_ceiling_99 rfl (lv_at hl 2 rfl) ?_
              refine lv_iload_n hx hb d_Mo_ceiling_100 rfl (lv_at hl 3 rfl) ?_
              refine fw_iast (x := c1) hx hb hK hF qa5 (by decide) ob.toNat (by omega) (by omega) d_Mo_ceiling_101 (fun H locs hF => ?_)
              obtain ⟨w1, ew1⟩ : ∃ zw : fw, zw = fU w (ad 5) (aZ g.2.1 4 (va_up (nA N 5) ob.toNat c1)) := ⟨_, rfl⟩
              have hF := fW_to ew1 hF
              have h2 : w1 b = some (.inr (5, [.int (iZ ((nTa N : Int))), .int (iZ (nTi N)), .int (iZ (nId N)), .int (iZ (nSw N)), .int (iZ (nLa N)), .int (iZ (nBu N)), .int (bZ (nSt N)), .ref (ad 0), .ref (ad 1), .ref (ad 2), .ref (ad 3), .ref (ad 4), .ref (ad 5), .ref (ad 6), .ref (ad 7), .ref (ad 8), .ref (ad 9), .ref (ad 10), .ref (ad 11), .ref (ad 12), .ref (ad 13), .ref (ad 14), .ref (ad 15), .ref (ad 16), .ref (ad 17), .ref (ad 18)])) := by rw [ew1]; exact fU_k (fw_ne hmo qa5 ne_rl) hmo
              have h3 : w1 (ad 0) = some (aZ g.2.1 6 (nA N 0)) := by rw [ew1]; exact fU_k (hinj 0 5 (by decide) (by decide) (by decide)) qa0
              have h4 : w1 (ad 1) = some (aZ g.2.1 6 (nA N 1)) := by rw [ew1]; exact fU_k (hinj 1 5 (by decide) (by decide) (by decide)) qa1
              have h5 : w1 (ad 2) = some (aZ g.2.1 6 (nA N 2)) := by rw [ew1]; exact fU_k (hinj 2 5 (by decide) (by decide) (by decide)) qa2
              have h6 : w1 (ad 3) = some (aZ g.2.1 6 (nA N 3)) := by rw [ew1]; exact fU_k (hinj 3 5 (by decide) (by decide) (by decide)) qa3
              have h7 : w1 (ad 4) = some (aZ g.2.1 6 (nA N 4)) := by rw [ew1]; exact fU_k (hinj 4 5 (by decide) (by decide) (by decide)) qa4
              have h8 : w1 (ad 5) = some (aZ g.2.1 4 (va_up (nA N 5) ob.toNat c1)) := by rw [ew1]; exact fU_s _ _ _
              have h9 : w1 (ad 6) = some (aZ g.2.1 6 (nA N 6)) := by rw [ew1]; exact fU_k (hinj 6 5 (by decide) (by decide) (by decide)) qa6
              have h10 : w1 (ad 7) = some (aZ g.2.1 18 (nA N 7)) := by rw [ew1]; exact fU_k (hinj 7 5 (by decide) (by decide) (by decide)) qa7
              have h11 : w1 (ad 8) = some (aZ g.2.1 18 (nA N 8)) := by rw [ew1]; exact fU_k (hinj 8 5 (by decide) (by decide) (by decide)) qa8
              have h12 : w1 (ad 9) = some (aZ g.2.1 18 (nA N 9)) := by rw [ew1]; exact fU_k (hinj 9 5 (by decide) (by decide) (by decide)) qa9
              have h13 : w1 (ad 10) = some (aZ g.2.1 6 (nA N 10)) := by rw [ew1]; exact fU_k (hinj 10 5 (by decide) (by decide) (by decide)) qa10
              have h14 : w1 (ad 11) = some (aZ g.2.1 48 (nA N 11)) := by rw [ew1]; exact fU_k (hinj 11 5 (by decide) (by decide) (by decide)) qa11
              have h15 : w1 (ad 12) = some (aZ g.2.1 6 (nA N 12)) := by rw [ew1]; exact fU_k (hinj 12 5 (by decide) (by decide) (by decide)) qa12
              have h16 : w1 (ad 13) = some (aZ g.2.1 6 (nA N 13)) := by rw [ew1]; exact fU_k (hinj 13 5 (by decide) (by decide) (by decide)) qa13
              have h17 : w1 (ad 14) = some (aZ g.2.1 6 (nA N 14)) := by rw [ew1]; exact fU_k (hinj 14 5 (by decide) (by decide) (by decide)) qa14
              have h18 : w1 (ad 15) = some (aZ g.2.1 6 (nA N 15)) := by rw [ew1]; exact fU_k (hinj 15 5 (by decide) (by decide) (by decide)) qa15
              have h19 : w1 (ad 16) = some (aZ g.2.1 6 (nA N 16)) := by rw [ew1]; exact fU_k (hinj 16 5 (by decide) (by decide) (by decide)) qa16
              have h20 : w1 (ad 17) = some (aZ g.2.1 6 (nA N 17)) := by rw [ew1]; exact fU_k (hinj 17 5 (by decide) (by decide) (by decide)) qa17
              have h21 : w1 (ad 18) = some (aZ g.2.1 64 (nA N 18)) := by rw [ew1]; exact fU_k (hinj 18 5 (by decide) (by decide) (by decide)) qa18
              refine lv_iconst (v := iZ 0) hx hb d_Mo_ceiling_102 rfl ?_
              exact rw_iret hx hb hr hlocks d_Mo_ceiling_103 (by omega) (by omega) hF ⟨congrArg iZ e0.symm, (by rw [cnN, if_pos e0]; exact ⟨h2, h3, h4, h5, h6, h7, h8, h9, h10, h11, h12, h13, h14, h15, h16, h17, h18, h19, h20, h21, hinj⟩), fun q hq => by rw [ew1, fU_n (own_ne hq (hO.2 5 (by decide)))]⟩
            · exfalso; omega
          | succ f ih =>
            intro i hif hv ls hl
            refine lv_iload_n hx hb d_Mo_ceiling_32 rfl (lv_at hl 0 rfl) ?_
            refine lv_aload_n hx hb d_Mo_ceiling_33 rfl (lv_at hl 1 rfl) ?_
            refine fw_get (ci := 5) (v := .int (iZ ((nTa N : Int)))) (C := rMo) (T := fMo) (N := 26) hx hb hts iMo hown hK hF.1 hmo rfl 0 (by decide) (hts _ t_508) (fun _ h9 => h9) rfl d_Mo_ceiling_34 ?_
            refine zz_icmp_ge (tgt := 95) hx hb d_Mo_ceiling_37 (by decide) ⟨by omega, by omega⟩ ⟨by omega, by omega⟩ (fun c37 => ?_) (fun c37 => ?_)
            · exfalso; omega
            · obtain ⟨r0i, r1i, r2i, r3i, r4i, r6i, r10i, r12i, r16i⟩ := itk i (by omega)
              refine lv_iload_n hx hb d_Mo_ceiling_40 rfl (lv_at hl 0 rfl) ?_
              refine lv_iconst (v := iZ 3) hx hb d_Mo_ceiling_41 rfl ?_
              refine zz_imul hx hb d_Mo_ceiling_42 ?_
              refine lv_istore (lv' := [(4, .int (iZ (((i : Int)) * 3))), (3, .int (iZ ((i : Int)))), (0, .ref b), (1, .int (iZ ob)), (2, .int (iZ c1))]) hx hb d_Mo_ceiling_43 hl (by decide) rfl (fun ls hl => ?_)
              have lp2 : ∀ (f2 k : Nat), k + f2 = i * 3 + (nA N 6 i).toNat → (cnI N i ob c1 (nA N 6 i).toNat (i * 3) = cnI N i ob c1 f2 k) → (i * 3 ≤ k) → ∀ ls : Array Slot, lv_has ls 5 [(4, .int (iZ ((k : Int)))), (0, .ref b), (1, .int (iZ ob)), (2, .int (iZ c1)), (3, .int (iZ ((i : Int))))] → W p l e ({ frames := 1, cells := 0, slots := 0, locals := 23 }) s m ([.ref b, .int (iZ ob), .int (iZ c1)] : List Value).toArray below meth c s.heap [] 0 0 (MQ below (va_Qi ((fun rr1 w1 => rr1 = iZ (cnR N ob c1) ∧ MoP g w1 b ad (cnN N ob c1) ∧ ∀ q, ¬ O q → w1 q = w q)) (rwB g w s.heap.size) (fA w s.heap.size)) ([.ref b, .int (iZ ob), .int (iZ c1)] : List Value).toArray s 0 0 (fA w s.heap.size)) (F0 m 45 ls []) := by
                intro f2
                induction f2 with
                | zero =>
                  intro k hif2 hv2 hkk ls hl
                  refine lv_iload hx hb d_Mo_ceiling_45 (lv_at hl 0 rfl) ?_
                  refine lv_iload_n hx hb d_Mo_ceiling_47 rfl (lv_at hl 4 rfl) ?_
                  refine lv_iconst (v := iZ 3) hx hb d_Mo_ceiling_48 rfl ?_
                  refine zz_imul hx hb d_Mo_ceiling_49 ?_
                  refine lv_aload_n hx hb d_Mo_ceiling_50 rfl (lv_at hl 1 rfl) ?_
                  refine fw_get (ci := 5) (v := .ref (ad 6)) (C := rMo) (T := fMo) (N := 26) hx hb hts iMo hown hK hF.1 hmo rfl 13 (by decide) (hts _ t_521) (fun _ h9 => h9) rfl d_Mo_ceiling_51 ?_
                  refine lv_iload_n hx hb d_Mo_ceiling_54 rfl (lv_at hl 4 rfl) ?_
                  refine fw_iald hx hb hK hF.1 qa6 (by decide) i rfl (by omega) d_Mo_ceiling_55 ?_
                  refine zz_iadd hx hb d_Mo_ceiling_56 ?_
                  refine zz_icmp_ge (tgt := 89) hx hb d_Mo_ceiling_57 (by decide) ⟨by omega, by omega⟩ ⟨by omega, by omega⟩ (fun c57 => ?_) (fun c57 => ?_)
                  · refine lv_iinc (v := iZ (((i : Int)) + 1)) (lv' := [(3, .int (iZ (((i : Int)) + 1))), (4, .int (iZ ((k : Int)))), (0, .ref b), (1, .int (iZ ob)), (2, .int (iZ c1))]) hx hb d_Mo_ceiling_89 hl (k := 4) rfl (iZ_add _ _) (by decide) rfl (fun ls hl => ?_)
                    refine lv_goto (tgt := 32) hx hb d_Mo_ceiling_92 (by decide) ?_
                    exact ih (i + 1) (by omega) (by rw [hv, cnF, if_neg (by rw [hv2]; exact Bool.false_ne_true)]) ls (lv_sub hl [0, 2, 3, 4] rfl)
                  · exfalso; omega
                | succ f2 ih2 =>
                  intro k hif2 hv2 hkk ls hl
                  refine lv_iload hx hb d_Mo_ceiling_45 (lv_at hl 0 rfl) ?_
                  refine lv_iload_n hx hb d_Mo_ceiling_47 rfl (lv_at hl 4 rfl) ?_
                  refine lv_iconst (v := iZ 3) hx hb d_Mo_ceiling_48 rfl ?_
                  refine zz_imul hx hb d_Mo_ceiling_49 ?_
                  refine lv_aload_n hx hb d_Mo_ceiling_50 rfl (lv_at hl 1 rfl) ?_
                  refine fw_get (ci := 5) (v := .ref (ad 6)) (C := rMo) (T := fMo) (N := 26) hx hb hts iMo hown hK hF.1 hmo rfl 13 (by decide) (hts _ t_521) (fun _ h9 => h9) rfl d_Mo_ceiling_51 ?_
                  refine lv_iload_n hx hb d_Mo_ceiling_54 rfl (lv_at hl 4 rfl) ?_
                  refine fw_iald hx hb hK hF.1 qa6 (by decide) i rfl (by omega) d_Mo_ceiling_55 ?_
                  refine zz_iadd hx hb d_Mo_ceiling_56 ?_
                  refine zz_icmp_ge (tgt := 89) hx hb d_Mo_ceiling_57 (by decide) ⟨by omega, by omega⟩ ⟨by omega, by omega⟩ (fun c57 => ?_) (fun c57 => ?_)
                  · exfalso; omega
                  · have h7 := ion k
                    refine lv_aload_n hx hb d_Mo_ceiling_60 rfl (lv_at hl 1 rfl) ?_
                    refine fw_get (ci := 5) (v := .ref (ad 7)) (C := rMo) (T := fMo) (N := 26) hx hb hts iMo hown hK hF.1 hmo rfl 14 (by decide) (hts _ t_522) (fun _ h9 => h9) rfl d_Mo_ceiling_61 ?_
                    refine lv_iload hx hb d_Mo_ceiling_64 (lv_at hl 0 rfl) ?_
                    refine fw_iald hx hb hK hF.1 qa7 (by decide) k rfl (by omega) d_Mo_ceiling_66 ?_
                    refine lv_iload_n hx hb d_Mo_ceiling_67 rfl (lv_at hl 2 rfl) ?_
                    refine zz_icmp_ne (tgt := 83) hx hb d_Mo_ceiling_68 (by decide) ⟨by omega, by omega⟩ ⟨by omega, by omega⟩ (fun c68 => ?_) (fun c68 => ?_)
                    · refine lv_iinc (v := iZ (((k : Int)) + 1)) (lv' := [(4, .int (iZ (((k : Int)) + 1))), (0, .ref b), (1, .int (iZ ob)), (2, .int (iZ c1)), (3, .int (iZ ((i : Int))))]) hx hb d_Mo_ceiling_83 hl (k := 0) rfl (iZ_add _ _) (by decide) rfl (fun ls hl => ?_)
                      refine lv_goto (tgt := 45) hx hb d_Mo_ceiling_86 (by decide) ?_
                      exact ih2 (k + 1) (by omega) (by rw [hv2, cnI, if_neg (fun q => by omega)]) (by omega) ls (lv_sub hl [0, 1, 2, 3, 4] rfl)
                    · refine lv_aload_n hx hb d_Mo_ceiling_71 rfl (lv_at hl 1 rfl) ?_
                      refine fw_get (ci := 5) (v := .ref (ad 3)) (C := rMo) (T := fMo) (N := 26) hx hb hts iMo hown hK hF.1 hmo rfl 10 (by decide) (hts _ t_518) (fun _ h9 => h9) rfl d_Mo_ceiling_72 ?_
                      refine lv_iload_n hx hb d_Mo_ceiling_75 rfl (lv_at hl 4 rfl) ?_
                      refine fw_iald hx hb hK hF.1 qa3 (by decide) i rfl (by omega) d_Mo_ceiling_76 ?_
                      refine lv_iload_n hx hb d_Mo_ceiling_77 rfl (lv_at hl 3 rfl) ?_
                      refine zz_icmp_le (tgt := 83) hx hb d_Mo_ceiling_78 (by decide) ⟨by omega, by omega⟩ ⟨by omega, by omega⟩ (fun c78 => ?_) (fun c78 => ?_)
                      · refine lv_iinc (v := iZ (((k : Int)) + 1)) (lv' := [(4, .int (iZ (((k : Int)) + 1))), (0, .ref b), (1, .int (iZ ob)), (2, .int (iZ c1)), (3, .int (iZ ((i : Int))))]) hx hb d_Mo_ceiling_83 hl (k := 0) rfl (iZ_add _ _) (by decide) rfl (fun ls hl => ?_)
                        refine lv_goto (tgt := 45) hx hb d_Mo_ceiling_86 (by decide) ?_
                        exact ih2 (k + 1) (by omega) (by rw [hv2, cnI, if_neg (fun q => by omega)]) (by omega) ls (lv_sub hl [0, 1, 2, 3, 4] rfl)
                      · refine lv_iconst (v := iZ (-1)) hx hb d_Mo_ceiling_81 rfl ?_
                        exact rw_iret hx hb hr hlocks d_Mo_ceiling_82 (by omega) (by omega) hF ⟨congrArg iZ ((by rw [cnR, if_neg nz, if_pos (by rw [hv, cnF, if_pos (by rw [hv2, cnI, if_pos ⟨c68, by omega⟩])])] : cnR N ob c1 = -1)).symm, (by rw [cnN, if_neg (by rw [(by rw [cnR, if_neg nz, if_pos (by rw [hv, cnF, if_pos (by rw [hv2, cnI, if_pos ⟨c68, by omega⟩])])] : cnR N ob c1 = -1)]; decide)]; exact hM0), fun q _ => rfl⟩
              exact lp2 (nA N 6 i).toNat (i * 3) (by omega) rfl (Nat.le_refl _) ls (lv_sub hl [0, 2, 3, 4, 1] rfl)
        exact lp (nTa N) 0 (by omega) rfl ls (lv_sub hl [0, 1, 2, 3] rfl)
      · refine lv_iconst (v := iZ (-1)) hx hb d_Mo_ceiling_28 rfl ?_
        exact rw_iret hx hb hr hlocks d_Mo_ceiling_29 (by omega) (by omega) hF ⟨congrArg iZ ((by rw [cnR, if_pos (Or.inr (Or.inr c25))] : cnR N ob c1 = -1)).symm, (by rw [cnN, if_neg (by rw [(by rw [cnR, if_pos (Or.inr (Or.inr c25))] : cnR N ob c1 = -1)]; decide)]; exact hM0), fun q _ => rfl⟩

set_option maxHeartbeats 4000000 in
set_option maxRecDepth 100000 in
theorem c_Mo_letGo (l : Launch) (g : GG) (w : fw) (sz : Nat) (b : Nat) (ad : Nat → Nat) (N : MoM) (O : Nat → Prop) (tb : Int) (t : Nat) (hM : MoP g w b ad N) (hI : MoI N tb) (hO : MoO O b ad) (ht : t < nTa N) (hw8 : nA N 10 t < 8) : RWv l y_Mo_letGo w_Mo_letGo ({ frames := 0, cells := 0, slots := 0, locals := 0 }) g w sz [.ref b, .int (iZ ((t : Int)))] 0 0 ((fun w1 => MoP g w1 b ad (lgM N t) ∧ ∀ q, ¬ O q → w1 q = w q)) := by
  refine rw_go (by decide) rfl (Nat.le_of_ble_eq_true rfl) ?_
  intro p e s m below meth c hx hb hr hml hown hts hlocks hin hsz hK hT hA hF ls hl
  subst hsz
  have hown : s.vm.findClass rMo = some m.cls := hown
  have hl : lv_has ls 2 [(0, .ref b), (1, .int (iZ ((t : Int))))] := hl
  have hI0 := hI
  have hM0 := hM
  obtain ⟨hmo, qa0, qa1, qa2, qa3, qa4, qa5, qa6, qa7, qa8, qa9, qa10, qa11, qa12, qa13, qa14, qa15, qa16, qa17, qa18, hinj⟩ := hM
  obtain ⟨itb, in6, iti, ila, ibu, ice, ion, ifr, ilo, ire, itk⟩ := hI
  obtain ⟨r0t, r1t, r2t, r3t, r4t, r6t, r10t, r12t, r16t⟩ := itk t ht
  refine lv_aload_n hx hb d_Mo_letGo_0 rfl (lv_at hl 0 rfl) ?_
  refine fw_get (ci := 5) (v := .ref (ad 11)) (C := rMo) (T := fMo) (N := 26) hx hb hts iMo hown hK hF.1 hmo rfl 18 (by decide) (hts _ t_526) (fun _ h9 => h9) rfl d_Mo_letGo_1 ?_
  refine lv_iload_n hx hb d_Mo_letGo_4 rfl (lv_at hl 1 rfl) ?_
  refine lv_bipush (v := iZ 8) hx hb d_Mo_letGo_5 (by decide) ?_
  refine zz_imul hx hb d_Mo_letGo_7 ?_
  refine lv_aload_n hx hb d_Mo_letGo_8 rfl (lv_at hl 0 rfl) ?_
  refine fw_get (ci := 5) (v := .ref (ad 10)) (C := rMo) (T := fMo) (N := 26) hx hb hts iMo hown hK hF.1 hmo rfl 17 (by decide) (hts _ t_525) (fun _ h9 => h9) rfl d_Mo_letGo_9 ?_
  refine lv_iload_n hx hb d_Mo_letGo_12 rfl (lv_at hl 1 rfl) ?_
  refine fw_iald hx hb hK hF.1 qa10 (by decide) t rfl (by omega) d_Mo_letGo_13 ?_
  refine zz_iadd hx hb d_Mo_letGo_14 ?_
  refine lv_aload_n hx hb d_Mo_letGo_15 rfl (lv_at hl 0 rfl) ?_
  refine fw_get (ci := 5) (v := .int (iZ (nTi N))) (C := rMo) (T := fMo) (N := 26) hx hb hts iMo hown hK hF.1 hmo rfl 1 (by decide) (hts _ t_509) (fun _ h9 => h9) rfl d_Mo_letGo_16 ?_
  refine fw_iast (x := nTi N) hx hb hK hF qa11 (by decide) ((t * 8 + (nA N 10 t).toNat)) (by omega) (by omega) d_Mo_letGo_19 (fun H locs hF => ?_)
  obtain ⟨w1, ew1⟩ : ∃ zw : fw, zw = fU w (ad 11) (aZ g.2.1 48 (va_up (nA N 11) ((t * 8 + (nA N 10 t).toNat)) (nTi N))) := ⟨_, rfl⟩
  have hF := fW_to ew1 hF
  have h2 : w1 b = some (.inr (5, [.int (iZ ((nTa N : Int))), .int (iZ (nTi N)), .int (iZ (nId N)), .int (iZ (nSw N)), .int (iZ (nLa N)), .int (iZ (nBu N)), .int (bZ (nSt N)), .ref (ad 0), .ref (ad 1), .ref (ad 2), .ref (ad 3), .ref (ad 4), .ref (ad 5), .ref (ad 6), .ref (ad 7), .ref (ad 8), .ref (ad 9), .ref (ad 10), .ref (ad 11), .ref (ad 12), .ref (ad 13), .ref (ad 14), .ref (ad 15), .ref (ad 16), .ref (ad 17), .ref (ad 18)])) := by rw [ew1]; exact fU_k (fw_ne hmo qa11 ne_rl) hmo
  have h3 : w1 (ad 0) = some (aZ g.2.1 6 (nA N 0)) := by rw [ew1]; exact fU_k (hinj 0 11 (by decide) (by decide) (by decide)) qa0
  have h4 : w1 (ad 1) = some (aZ g.2.1 6 (nA N 1)) := by rw [ew1]; exact fU_k (hinj 1 11 (by decide) (by decide) (by decide)) qa1
  have h5 : w1 (ad 2) = some (aZ g.2.1 6 (nA N 2)) := by rw [ew1]; exact fU_k (hinj 2 11 (by decide) (by decide) (by decide)) qa2
  have h6 : w1 (ad 3) = some (aZ g.2.1 6 (nA N 3)) := by rw [ew1]; exact fU_k (hinj 3 11 (by decide) (by decide) (by decide)) qa3
  have h7 : w1 (ad 4) = some (aZ g.2.1 6 (nA N 4)) := by rw [ew1]; exact fU_k (hinj 4 11 (by decide) (by decide) (by decide)) qa4
  have h8 : w1 (ad 5) = some (aZ g.2.1 4 (nA N 5)) := by rw [ew1]; exact fU_k (hinj 5 11 (by decide) (by decide) (by decide)) qa5
  have h9 : w1 (ad 6) = some (aZ g.2.1 6 (nA N 6)) := by rw [ew1]; exact fU_k (hinj 6 11 (by decide) (by decide) (by decide)) qa6
  have h10 : w1 (ad 7) = some (aZ g.2.1 18 (nA N 7)) := by rw [ew1]; exact fU_k (hinj 7 11 (by decide) (by decide) (by decide)) qa7
  have h11 : w1 (ad 8) = some (aZ g.2.1 18 (nA N 8)) := by rw [ew1]; exact fU_k (hinj 8 11 (by decide) (by decide) (by decide)) qa8
  have h12 : w1 (ad 9) = some (aZ g.2.1 18 (nA N 9)) := by rw [ew1]; exact fU_k (hinj 9 11 (by decide) (by decide) (by decide)) qa9
  have h13 : w1 (ad 10) = some (aZ g.2.1 6 (nA N 10)) := by rw [ew1]; exact fU_k (hinj 10 11 (by decide) (by decide) (by decide)) qa10
  have h14 : w1 (ad 11) = some (aZ g.2.1 48 (va_up (nA N 11) ((t * 8 + (nA N 10 t).toNat)) (nTi N))) := by rw [ew1]; exact fU_s _ _ _
  have h15 : w1 (ad 12) = some (aZ g.2.1 6 (nA N 12)) := by rw [ew1]; exact fU_k (hinj 12 11 (by decide) (by decide) (by decide)) qa12
  have h16 : w1 (ad 13) = some (aZ g.2.1 6 (nA N 13)) := by rw [ew1]; exact fU_k (hinj 13 11 (by decide) (by decide) (by decide)) qa13
  have h17 : w1 (ad 14) = some (aZ g.2.1 6 (nA N 14)) := by rw [ew1]; exact fU_k (hinj 14 11 (by decide) (by decide) (by decide)) qa14
  have h18 : w1 (ad 15) = some (aZ g.2.1 6 (nA N 15)) := by rw [ew1]; exact fU_k (hinj 15 11 (by decide) (by decide) (by decide)) qa15
  have h19 : w1 (ad 16) = some (aZ g.2.1 6 (nA N 16)) := by rw [ew1]; exact fU_k (hinj 16 11 (by decide) (by decide) (by decide)) qa16
  have h20 : w1 (ad 17) = some (aZ g.2.1 6 (nA N 17)) := by rw [ew1]; exact fU_k (hinj 17 11 (by decide) (by decide) (by decide)) qa17
  have h21 : w1 (ad 18) = some (aZ g.2.1 64 (nA N 18)) := by rw [ew1]; exact fU_k (hinj 18 11 (by decide) (by decide) (by decide)) qa18
  refine lv_aload_n hx hb d_Mo_letGo_20 rfl (lv_at hl 0 rfl) ?_
  refine fw_get (ci := 5) (v := .ref (ad 10)) (C := rMo) (T := fMo) (N := 26) hx hb hts iMo hown hK hF.1 h2 rfl 17 (by decide) (hts _ t_525) (fun _ h9 => h9) rfl d_Mo_letGo_21 ?_
  refine lv_iload_n hx hb d_Mo_letGo_24 rfl (lv_at hl 1 rfl) ?_
  refine lv_dup2_11 hx hb d_Mo_letGo_25 rfl rfl ?_
  refine fw_iald hx hb hK hF.1 h13 (by decide) t rfl (by omega) d_Mo_letGo_26 ?_
  refine lv_iconst (v := iZ 1) hx hb d_Mo_letGo_27 rfl ?_
  refine zz_iadd hx hb d_Mo_letGo_28 ?_
  refine fw_iast (x := ((nA N 10) t) + 1) hx hb hK hF h13 (by decide) t rfl (by omega) d_Mo_letGo_29 (fun H locs hF => ?_)
  obtain ⟨w22, ew22⟩ : ∃ zw : fw, zw = fU w1 (ad 10) (aZ g.2.1 6 (va_up (nA N 10) t (((nA N 10) t) + 1))) := ⟨_, rfl⟩
  have hF := fW_to ew22 hF
  have h23 : w22 b = some (.inr (5, [.int (iZ ((nTa N : Int))), .int (iZ (nTi N)), .int (iZ (nId N)), .int (iZ (nSw N)), .int (iZ (nLa N)), .int (iZ (nBu N)), .int (bZ (nSt N)), .ref (ad 0), .ref (ad 1), .ref (ad 2), .ref (ad 3), .ref (ad 4), .ref (ad 5), .ref (ad 6), .ref (ad 7), .ref (ad 8), .ref (ad 9), .ref (ad 10), .ref (ad 11), .ref (ad 12), .ref (ad 13), .ref (ad 14), .ref (ad 15), .ref (ad 16), .ref (ad 17), .ref (ad 18)])) := by rw [ew22]; exact fU_k (fw_ne h2 h13 ne_rl) h2
  have h24 : w22 (ad 0) = some (aZ g.2.1 6 (nA N 0)) := by rw [ew22]; exact fU_k (hinj 0 10 (by decide) (by decide) (by decide)) h3
  have h25 : w22 (ad 1) = some (aZ g.2.1 6 (nA N 1)) := by rw [ew22]; exact fU_k (hinj 1 10 (by decide) (by decide) (by decide)) h4
  have h26 : w22 (ad 2) = some (aZ g.2.1 6 (nA N 2)) := by rw [ew22]; exact fU_k (hinj 2 10 (by decide) (by decide) (by decide)) h5
  have h27 : w22 (ad 3) = some (aZ g.2.1 6 (nA N 3)) := by rw [ew22]; exact fU_k (hinj 3 10 (by decide) (by decide) (by decide)) h6
  have h28 : w22 (ad 4) = some (aZ g.2.1 6 (nA N 4)) := by rw [ew22]; exact fU_k (hinj 4 10 (by decide) (by decide) (by decide)) h7
  have h29 : w22 (ad 5) = some (aZ g.2.1 4 (nA N 5)) := by rw [ew22]; exact fU_k (hinj 5 10 (by decide) (by decide) (by decide)) h8
  have h30 : w22 (ad 6) = some (aZ g.2.1 6 (nA N 6)) := by rw [ew22]; exact fU_k (hinj 6 10 (by decide) (by decide) (by decide)) h9
  have h31 : w22 (ad 7) = some (aZ g.2.1 18 (nA N 7)) := by rw [ew22]; exact fU_k (hinj 7 10 (by decide) (by decide) (by decide)) h10
  have h32 : w22 (ad 8) = some (aZ g.2.1 18 (nA N 8)) := by rw [ew22]; exact fU_k (hinj 8 10 (by decide) (by decide) (by decide)) h11
  have h33 : w22 (ad 9) = some (aZ g.2.1 18 (nA N 9)) := by rw [ew22]; exact fU_k (hinj 9 10 (by decide) (by decide) (by decide)) h12
  have h34 : w22 (ad 10) = some (aZ g.2.1 6 (va_up (nA N 10) t (((nA N 10) t) + 1))) := by rw [ew22]; exact fU_s _ _ _
  have h35 : w22 (ad 11) = some (aZ g.2.1 48 (va_up (nA N 11) ((t * 8 + (nA N 10 t).toNat)) (nTi N))) := by rw [ew22]; exact fU_k (hinj 11 10 (by decide) (by decide) (by decide)) h14
  have h36 : w22 (ad 12) = some (aZ g.2.1 6 (nA N 12)) := by rw [ew22]; exact fU_k (hinj 12 10 (by decide) (by decide) (by decide)) h15
  have h37 : w22 (ad 13) = some (aZ g.2.1 6 (nA N 13)) := by rw [ew22]; exact fU_k (hinj 13 10 (by decide) (by decide) (by decide)) h16
  have h38 : w22 (ad 14) = some (aZ g.2.1 6 (nA N 14)) := by rw [ew22]; exact fU_k (hinj 14 10 (by decide) (by decide) (by decide)) h17
  have h39 : w22 (ad 15) = some (aZ g.2.1 6 (nA N 15)) := by rw [ew22]; exact fU_k (hinj 15 10 (by decide) (by decide) (by decide)) h18
  have h40 : w22 (ad 16) = some (aZ g.2.1 6 (nA N 16)) := by rw [ew22]; exact fU_k (hinj 16 10 (by decide) (by decide) (by decide)) h19
  have h41 : w22 (ad 17) = some (aZ g.2.1 6 (nA N 17)) := by rw [ew22]; exact fU_k (hinj 17 10 (by decide) (by decide) (by decide)) h20
  have h42 : w22 (ad 18) = some (aZ g.2.1 64 (nA N 18)) := by rw [ew22]; exact fU_k (hinj 18 10 (by decide) (by decide) (by decide)) h21
  refine lv_aload_n hx hb d_Mo_letGo_30 rfl (lv_at hl 0 rfl) ?_
  refine fw_get (ci := 5) (v := .ref (ad 13)) (C := rMo) (T := fMo) (N := 26) hx hb hts iMo hown hK hF.1 h23 rfl 20 (by decide) (hts _ t_528) (fun _ h9 => h9) rfl d_Mo_letGo_31 ?_
  refine lv_iload_n hx hb d_Mo_letGo_34 rfl (lv_at hl 1 rfl) ?_
  refine lv_dup2_11 hx hb d_Mo_letGo_35 rfl rfl ?_
  refine fw_iald hx hb hK hF.1 h37 (by decide) t rfl (by omega) d_Mo_letGo_36 ?_
  refine lv_iconst (v := iZ 1) hx hb d_Mo_letGo_37 rfl ?_
  refine zz_iadd hx hb d_Mo_letGo_38 ?_
  refine fw_iast (x := ((nA N 13) t) + 1) hx hb hK hF h37 (by decide) t rfl (by omega) d_Mo_letGo_39 (fun H locs hF => ?_)
  obtain ⟨w43, ew43⟩ : ∃ zw : fw, zw = fU w22 (ad 13) (aZ g.2.1 6 (va_up (nA N 13) t (((nA N 13) t) + 1))) := ⟨_, rfl⟩
  have hF := fW_to ew43 hF
  have h44 : w43 b = some (.inr (5, [.int (iZ ((nTa N : Int))), .int (iZ (nTi N)), .int (iZ (nId N)), .int (iZ (nSw N)), .int (iZ (nLa N)), .int (iZ (nBu N)), .int (bZ (nSt N)), .ref (ad 0), .ref (ad 1), .ref (ad 2), .ref (ad 3), .ref (ad 4), .ref (ad 5), .ref (ad 6), .ref (ad 7), .ref (ad 8), .ref (ad 9), .ref (ad 10), .ref (ad 11), .ref (ad 12), .ref (ad 13), .ref (ad 14), .ref (ad 15), .ref (ad 16), .ref (ad 17), .ref (ad 18)])) := by rw [ew43]; exact fU_k (fw_ne h23 h37 ne_rl) h23
  have h45 : w43 (ad 0) = some (aZ g.2.1 6 (nA N 0)) := by rw [ew43]; exact fU_k (hinj 0 13 (by decide) (by decide) (by decide)) h24
  have h46 : w43 (ad 1) = some (aZ g.2.1 6 (nA N 1)) := by rw [ew43]; exact fU_k (hinj 1 13 (by decide) (by decide) (by decide)) h25
  have h47 : w43 (ad 2) = some (aZ g.2.1 6 (nA N 2)) := by rw [ew43]; exact fU_k (hinj 2 13 (by decide) (by decide) (by decide)) h26
  have h48 : w43 (ad 3) = some (aZ g.2.1 6 (nA N 3)) := by rw [ew43]; exact fU_k (hinj 3 13 (by decide) (by decide) (by decide)) h27
  have h49 : w43 (ad 4) = some (aZ g.2.1 6 (nA N 4)) := by rw [ew43]; exact fU_k (hinj 4 13 (by decide) (by decide) (by decide)) h28
  have h50 : w43 (ad 5) = some (aZ g.2.1 4 (nA N 5)) := by rw [ew43]; exact fU_k (hinj 5 13 (by decide) (by decide) (by decide)) h29
  have h51 : w43 (ad 6) = some (aZ g.2.1 6 (nA N 6)) := by rw [ew43]; exact fU_k (hinj 6 13 (by decide) (by decide) (by decide)) h30
  have h52 : w43 (ad 7) = some (aZ g.2.1 18 (nA N 7)) := by rw [ew43]; exact fU_k (hinj 7 13 (by decide) (by decide) (by decide)) h31
  have h53 : w43 (ad 8) = some (aZ g.2.1 18 (nA N 8)) := by rw [ew43]; exact fU_k (hinj 8 13 (by decide) (by decide) (by decide)) h32
  have h54 : w43 (ad 9) = some (aZ g.2.1 18 (nA N 9)) := by rw [ew43]; exact fU_k (hinj 9 13 (by decide) (by decide) (by decide)) h33
  have h55 : w43 (ad 10) = some (aZ g.2.1 6 (va_up (nA N 10) t (((nA N 10) t) + 1))) := by rw [ew43]; exact fU_k (hinj 10 13 (by decide) (by decide) (by decide)) h34
  have h56 : w43 (ad 11) = some (aZ g.2.1 48 (va_up (nA N 11) ((t * 8 + (nA N 10 t).toNat)) (nTi N))) := by rw [ew43]; exact fU_k (hinj 11 13 (by decide) (by decide) (by decide)) h35
  have h57 : w43 (ad 12) = some (aZ g.2.1 6 (nA N 12)) := by rw [ew43]; exact fU_k (hinj 12 13 (by decide) (by decide) (by decide)) h36
  have h58 : w43 (ad 13) = some (aZ g.2.1 6 (va_up (nA N 13) t (((nA N 13) t) + 1))) := by rw [ew43]; exact fU_s _ _ _
  have h59 : w43 (ad 14) = some (aZ g.2.1 6 (nA N 14)) := by rw [ew43]; exact fU_k (hinj 14 13 (by decide) (by decide) (by decide)) h38
  have h60 : w43 (ad 15) = some (aZ g.2.1 6 (nA N 15)) := by rw [ew43]; exact fU_k (hinj 15 13 (by decide) (by decide) (by decide)) h39
  have h61 : w43 (ad 16) = some (aZ g.2.1 6 (nA N 16)) := by rw [ew43]; exact fU_k (hinj 16 13 (by decide) (by decide) (by decide)) h40
  have h62 : w43 (ad 17) = some (aZ g.2.1 6 (nA N 17)) := by rw [ew43]; exact fU_k (hinj 17 13 (by decide) (by decide) (by decide)) h41
  have h63 : w43 (ad 18) = some (aZ g.2.1 64 (nA N 18)) := by rw [ew43]; exact fU_k (hinj 18 13 (by decide) (by decide) (by decide)) h42
  refine lv_aload_n hx hb d_Mo_letGo_40 rfl (lv_at hl 0 rfl) ?_
  refine fw_get (ci := 5) (v := .ref (ad 17)) (C := rMo) (T := fMo) (N := 26) hx hb hts iMo hown hK hF.1 h44 rfl 24 (by decide) (hts _ t_532) (fun _ h9 => h9) rfl d_Mo_letGo_41 ?_
  refine lv_iload_n hx hb d_Mo_letGo_44 rfl (lv_at hl 1 rfl) ?_
  refine lv_aload_n hx hb d_Mo_letGo_45 rfl (lv_at hl 0 rfl) ?_
  refine fw_get (ci := 5) (v := .int (iZ (nTi N))) (C := rMo) (T := fMo) (N := 26) hx hb hts iMo hown hK hF.1 h44 rfl 1 (by decide) (hts _ t_509) (fun _ h9 => h9) rfl d_Mo_letGo_46 ?_
  refine fw_iast (x := nTi N) hx hb hK hF h62 (by decide) t rfl (by omega) d_Mo_letGo_49 (fun H locs hF => ?_)
  obtain ⟨w64, ew64⟩ : ∃ zw : fw, zw = fU w43 (ad 17) (aZ g.2.1 6 (va_up (nA N 17) t (nTi N))) := ⟨_, rfl⟩
  have hF := fW_to ew64 hF
  have h65 : w64 b = some (.inr (5, [.int (iZ ((nTa N : Int))), .int (iZ (nTi N)), .int (iZ (nId N)), .int (iZ (nSw N)), .int (iZ (nLa N)), .int (iZ (nBu N)), .int (bZ (nSt N)), .ref (ad 0), .ref (ad 1), .ref (ad 2), .ref (ad 3), .ref (ad 4), .ref (ad 5), .ref (ad 6), .ref (ad 7), .ref (ad 8), .ref (ad 9), .ref (ad 10), .ref (ad 11), .ref (ad 12), .ref (ad 13), .ref (ad 14), .ref (ad 15), .ref (ad 16), .ref (ad 17), .ref (ad 18)])) := by rw [ew64]; exact fU_k (fw_ne h44 h62 ne_rl) h44
  have h66 : w64 (ad 0) = some (aZ g.2.1 6 (nA N 0)) := by rw [ew64]; exact fU_k (hinj 0 17 (by decide) (by decide) (by decide)) h45
  have h67 : w64 (ad 1) = some (aZ g.2.1 6 (nA N 1)) := by rw [ew64]; exact fU_k (hinj 1 17 (by decide) (by decide) (by decide)) h46
  have h68 : w64 (ad 2) = some (aZ g.2.1 6 (nA N 2)) := by rw [ew64]; exact fU_k (hinj 2 17 (by decide) (by decide) (by decide)) h47
  have h69 : w64 (ad 3) = some (aZ g.2.1 6 (nA N 3)) := by rw [ew64]; exact fU_k (hinj 3 17 (by decide) (by decide) (by decide)) h48
  have h70 : w64 (ad 4) = some (aZ g.2.1 6 (nA N 4)) := by rw [ew64]; exact fU_k (hinj 4 17 (by decide) (by decide) (by decide)) h49
  have h71 : w64 (ad 5) = some (aZ g.2.1 4 (nA N 5)) := by rw [ew64]; exact fU_k (hinj 5 17 (by decide) (by decide) (by decide)) h50
  have h72 : w64 (ad 6) = some (aZ g.2.1 6 (nA N 6)) := by rw [ew64]; exact fU_k (hinj 6 17 (by decide) (by decide) (by decide)) h51
  have h73 : w64 (ad 7) = some (aZ g.2.1 18 (nA N 7)) := by rw [ew64]; exact fU_k (hinj 7 17 (by decide) (by decide) (by decide)) h52
  have h74 : w64 (ad 8) = some (aZ g.2.1 18 (nA N 8)) := by rw [ew64]; exact fU_k (hinj 8 17 (by decide) (by decide) (by decide)) h53
  have h75 : w64 (ad 9) = some (aZ g.2.1 18 (nA N 9)) := by rw [ew64]; exact fU_k (hinj 9 17 (by decide) (by decide) (by decide)) h54
  have h76 : w64 (ad 10) = some (aZ g.2.1 6 (va_up (nA N 10) t (((nA N 10) t) + 1))) := by rw [ew64]; exact fU_k (hinj 10 17 (by decide) (by decide) (by decide)) h55
  have h77 : w64 (ad 11) = some (aZ g.2.1 48 (va_up (nA N 11) ((t * 8 + (nA N 10 t).toNat)) (nTi N))) := by rw [ew64]; exact fU_k (hinj 11 17 (by decide) (by decide) (by decide)) h56
  have h78 : w64 (ad 12) = some (aZ g.2.1 6 (nA N 12)) := by rw [ew64]; exact fU_k (hinj 12 17 (by decide) (by decide) (by decide)) h57
  have h79 : w64 (ad 13) = some (aZ g.2.1 6 (va_up (nA N 13) t (((nA N 13) t) + 1))) := by rw [ew64]; exact fU_k (hinj 13 17 (by decide) (by decide) (by decide)) h58
  have h80 : w64 (ad 14) = some (aZ g.2.1 6 (nA N 14)) := by rw [ew64]; exact fU_k (hinj 14 17 (by decide) (by decide) (by decide)) h59
  have h81 : w64 (ad 15) = some (aZ g.2.1 6 (nA N 15)) := by rw [ew64]; exact fU_k (hinj 15 17 (by decide) (by decide) (by decide)) h60
  have h82 : w64 (ad 16) = some (aZ g.2.1 6 (nA N 16)) := by rw [ew64]; exact fU_k (hinj 16 17 (by decide) (by decide) (by decide)) h61
  have h83 : w64 (ad 17) = some (aZ g.2.1 6 (va_up (nA N 17) t (nTi N))) := by rw [ew64]; exact fU_s _ _ _
  have h84 : w64 (ad 18) = some (aZ g.2.1 64 (nA N 18)) := by rw [ew64]; exact fU_k (hinj 18 17 (by decide) (by decide) (by decide)) h63
  exact rw_vret hx hb hr hlocks d_Mo_letGo_50 (by omega) (by omega) hF ⟨⟨h65, h66, h67, h68, h69, h70, h71, h72, h73, h74, h75, h76, h77, h78, h79, h80, h81, h82, h83, h84, hinj⟩, fun q hq => by rw [ew64, fU_n (own_ne hq (hO.2 17 (by decide))), ew43, fU_n (own_ne hq (hO.2 13 (by decide))), ew22, fU_n (own_ne hq (hO.2 10 (by decide))), ew1, fU_n (own_ne hq (hO.2 11 (by decide)))]⟩

set_option maxHeartbeats 4000000 in
set_option maxRecDepth 100000 in
theorem c_Mo_event (l : Launch) (g : GG) (w : fw) (sz : Nat) (b : Nat) (ad : Nat → Nat) (N : MoM) (O : Nat → Prop) (tb : Int) (v : Int) (hM : MoP g w b ad N) (hI : MoI N tb) (hO : MoO O b ad) (hr_0 : ir v) (h13 : ∀ i, i < nTa N → (0 ≤ nA N 13 i ∧ nA N 13 i ≤ 300001) ∧ (0 ≤ nA N 17 i ∧ nA N 17 i ≤ tb)) : RWi l y_Mo_event w_Mo_event ({ frames := 1, cells := 0, slots := 0, locals := 21 }) g w sz [.ref b, .int (iZ v)] 0 0 ((fun rr1 w1 => rr1 = iZ (enR N v) ∧ MoP g w1 b ad (enM N v) ∧ ∀ q, ¬ O q → w1 q = w q)) := by
  refine rw_go (by decide) rfl (Nat.le_of_ble_eq_true rfl) ?_
  intro p e s m below meth c hx hb hr hml hown hts hlocks hin hsz hK hT hA hF ls hl
  subst hsz
  have hown : s.vm.findClass rMo = some m.cls := hown
  have hl : lv_has ls 2 [(0, .ref b), (1, .int (iZ v))] := hl
  have hI0 := hI
  have hM0 := hM
  obtain ⟨hmo, qa0, qa1, qa2, qa3, qa4, qa5, qa6, qa7, qa8, qa9, qa10, qa11, qa12, qa13, qa14, qa15, qa16, qa17, qa18, hinj⟩ := hM
  obtain ⟨itb, in6, iti, ila, ibu, ice, ion, ifr, ilo, ire, itk⟩ := hI
  obtain ⟨hr_0a, hr_0b⟩ := hr_0
  refine lv_aload_n hx hb d_Mo_event_0 rfl (lv_at hl 0 rfl) ?_
  refine fw_get (ci := 5) (v := .int (bZ (nSt N))) (C := rMo) (T := fMo) (N := 26) hx hb hts iMo hown hK hF.1 hmo rfl 6 (by decide) (hts _ t_514) (fun _ h9 => h9) rfl d_Mo_event_1 ?_
  refine zb_if_eq (tgt := 24) hx hb d_Mo_event_4 (by decide) (fun c4 => ?_) (fun c4 => ?_)
  · refine lv_iconst (v := iZ (-1)) hx hb d_Mo_event_24 rfl ?_
    exact rw_iret hx hb hr hlocks d_Mo_event_25 (by omega) (by omega) hF ⟨congrArg iZ ((by rw [enR, if_pos (Or.inl c4)] : enR N v = -1)).symm, (by rw [enM, if_neg (by rw [(by rw [enR, if_pos (Or.inl c4)] : enR N v = -1)]; decide)]; exact hM0), fun q _ => rfl⟩
  · refine lv_aload_n hx hb d_Mo_event_7 rfl (lv_at hl 0 rfl) ?_
    refine lv_iload_n hx hb d_Mo_event_8 rfl (lv_at hl 1 rfl) ?_
    refine fw_ro (r := .int (bZ (decide (v < 0 ∨ (nTa N : Int) ≤ v)))) (va_runV (As := [.int (iZ v)]) (rest := []) ⟨hx, hb, hml, hown, hts⟩ (c_Mo_no l g w b ad N tb v hM0 hI0 ⟨by omega, by omega⟩) (cwV 1 hts (gdV k_Mo_no t_603 t_605 t_35 t_50) rfl rfl rfl (by decide +kernel) ⟨Nat.le_of_ble_eq_true rfl, Nat.le_of_ble_eq_true rfl⟩) ⟨roP_blind, fw_recv hK hF.1 hmo rfl, roP_pre hK hF.1⟩ rfl rfl hl.1 rfl (lv_room (Nat.le_of_ble_eq_true rfl)) d_Mo_event_9 ⟨by decide, by decide⟩) ?_
    refine zb_if_ne (tgt := 24) hx hb d_Mo_event_12 (by decide) (fun c12 => ?_) (fun c12 => ?_)
    · refine lv_iconst (v := iZ (-1)) hx hb d_Mo_event_24 rfl ?_
      exact rw_iret hx hb hr hlocks d_Mo_event_25 (by omega) (by omega) hF ⟨congrArg iZ ((by rw [enR, if_pos (Or.inr (of_decide_eq_true c12))] : enR N v = -1)).symm, (by rw [enM, if_neg (by rw [(by rw [enR, if_pos (Or.inr (of_decide_eq_true c12))] : enR N v = -1)]; decide)]; exact hM0), fun q _ => rfl⟩
    · have n12 := of_decide_eq_false c12
      obtain ⟨t, et⟩ := Int.eq_ofNat_of_zero_le (show 0 ≤ v by omega)
      subst et
      have ht : t < nTa N := by omega
      obtain ⟨r0t, r1t, r2t, r3t, r4t, r6t, r10t, r12t, r16t⟩ := itk t ht
      have h13t := h13 t ht
      have nz1 : ¬ (nSt N = false ∨ ((t : Int) < 0 ∨ (nTa N : Int) ≤ (t : Int))) := fun q => q.elim (fun z => by rw [c4] at z; cases z) n12
      refine lv_aload_n hx hb d_Mo_event_15 rfl (lv_at hl 0 rfl) ?_
      refine fw_get (ci := 5) (v := .ref (ad 4)) (C := rMo) (T := fMo) (N := 26) hx hb hts iMo hown hK hF.1 hmo rfl 11 (by decide) (hts _ t_519) (fun _ h9 => h9) rfl d_Mo_event_16 ?_
      refine lv_iload_n hx hb d_Mo_event_19 rfl (lv_at hl 1 rfl) ?_
      refine fw_iald hx hb hK hF.1 qa4 (by decide) t rfl (by omega) d_Mo_event_20 ?_
      refine zz_if_lt (tgt := 26) hx hb d_Mo_event_21 (by decide) ⟨by omega, by omega⟩ (fun c21 => ?_) (fun c21 => ?_)
      · refine lv_aload_n hx hb d_Mo_event_26 rfl (lv_at hl 0 rfl) ?_
        refine fw_get (ci := 5) (v := .ref (ad 13)) (C := rMo) (T := fMo) (N := 26) hx hb hts iMo hown hK hF.1 hmo rfl 20 (by decide) (hts _ t_528) (fun _ h9 => h9) rfl d_Mo_event_27 ?_
        refine lv_iload_n hx hb d_Mo_event_30 rfl (lv_at hl 1 rfl) ?_
        refine fw_iald hx hb hK hF.1 qa13 (by decide) t rfl (by omega) d_Mo_event_31 ?_
        refine zz_if_le (tgt := 57) hx hb d_Mo_event_32 (by decide) ⟨by omega, by omega⟩ (fun c32 => ?_) (fun c32 => ?_)
        · refine lv_aload_n hx hb d_Mo_event_57 rfl (lv_at hl 0 rfl) ?_
          refine fw_get (ci := 5) (v := .ref (ad 10)) (C := rMo) (T := fMo) (N := 26) hx hb hts iMo hown hK hF.1 hmo rfl 17 (by decide) (hts _ t_525) (fun _ h9 => h9) rfl d_Mo_event_58 ?_
          refine lv_iload_n hx hb d_Mo_event_61 rfl (lv_at hl 1 rfl) ?_
          refine fw_iald hx hb hK hF.1 qa10 (by decide) t rfl (by omega) d_Mo_event_62 ?_
          refine lv_bipush (v := iZ 8) hx hb d_Mo_event_63 (by decide) ?_
          refine zz_icmp_ne (tgt := 71) hx hb d_Mo_event_65 (by decide) ⟨by omega, by omega⟩ ⟨by omega, by omega⟩ (fun c65 => ?_) (fun c65 => ?_)
          · have e0 : enR N (t : Int) = 0 := by rw [enR, if_neg nz1, Int.toNat_natCast, if_neg (by omega), if_neg (by omega), if_neg c65]
            refine lv_aload_n hx hb d_Mo_event_71 rfl (lv_at hl 0 rfl) ?_
            refine lv_iload_n hx hb d_Mo_event_72 rfl (lv_at hl 1 rfl) ?_
            refine fw_callv (va_runV (As := [.int (iZ ((t : Int)))]) (rest := []) ⟨hx, hb, hml, hown, hts⟩ (c_Mo_letGo l g w s.heap.size b ad N O tb t hM0 hI0 hO ht (by omega)) (cwV 1 hts (gdV k_Mo_letGo t_619 t_621 t_37 t_50) rfl rfl rfl (by decide +kernel) ⟨Nat.le_of_ble_eq_true rfl, Nat.le_of_ble_eq_true rfl⟩) ⟨rwP_blind, fw_recv hK hF.1 hmo rfl, rwP_pre hK hT hA hF⟩ rfl rfl hl.1 rfl (lv_room (Nat.le_of_ble_eq_true rfl)) d_Mo_event_73 ⟨by decide, by decide⟩) hF hA (fun w1 H locs hp2 hz hF => ?_)
            obtain ⟨k1, k2⟩ := hp2
            refine lv_iconst (v := iZ 0) hx hb d_Mo_event_76 rfl ?_
            exact rw_iret hx hb hr hlocks d_Mo_event_77 (by omega) (by omega) hF ⟨congrArg iZ e0.symm, (by rw [enM, if_pos e0]; exact k1), k2⟩
          · refine lv_bipush (v := iZ (-2)) hx hb d_Mo_event_68 (by decide) ?_
            exact rw_iret hx hb hr hlocks d_Mo_event_70 (by omega) (by omega) hF ⟨congrArg iZ ((by rw [enR, if_neg nz1, Int.toNat_natCast, if_neg (by omega), if_neg (by omega), if_pos c65] : enR N (t : Int) = -2)).symm, (by rw [enM, if_neg (by rw [(by rw [enR, if_neg nz1, Int.toNat_natCast, if_neg (by omega), if_neg (by omega), if_pos c65] : enR N (t : Int) = -2)]; decide)]; exact hM0), fun q _ => rfl⟩
        · refine lv_aload_n hx hb d_Mo_event_35 rfl (lv_at hl 0 rfl) ?_
          refine fw_get (ci := 5) (v := .int (iZ (nTi N))) (C := rMo) (T := fMo) (N := 26) hx hb hts iMo hown hK hF.1 hmo rfl 1 (by decide) (hts _ t_509) (fun _ h9 => h9) rfl d_Mo_event_36 ?_
          refine lv_aload_n hx hb d_Mo_event_39 rfl (lv_at hl 0 rfl) ?_
          refine fw_get (ci := 5) (v := .ref (ad 17)) (C := rMo) (T := fMo) (N := 26) hx hb hts iMo hown hK hF.1 hmo rfl 24 (by decide) (hts _ t_532) (fun _ h9 => h9) rfl d_Mo_event_40 ?_
          refine lv_iload_n hx hb d_Mo_event_43 rfl (lv_at hl 1 rfl) ?_
          refine fw_iald hx hb hK hF.1 qa17 (by decide) t rfl (by omega) d_Mo_event_44 ?_
          refine zz_isub hx hb d_Mo_event_45 ?_
          refine lv_aload_n hx hb d_Mo_event_46 rfl (lv_at hl 0 rfl) ?_
          refine fw_get (ci := 5) (v := .ref (ad 0)) (C := rMo) (T := fMo) (N := 26) hx hb hts iMo hown hK hF.1 hmo rfl 7 (by decide) (hts _ t_515) (fun _ h9 => h9) rfl d_Mo_event_47 ?_
          refine lv_iload_n hx hb d_Mo_event_50 rfl (lv_at hl 1 rfl) ?_
          refine fw_iald hx hb hK hF.1 qa0 (by decide) t rfl (by omega) d_Mo_event_51 ?_
          refine zz_icmp_ge (tgt := 57) hx hb d_Mo_event_52 (by decide) ⟨by omega, by omega⟩ ⟨by omega, by omega⟩ (fun c52 => ?_) (fun c52 => ?_)
          · refine lv_aload_n hx hb d_Mo_event_57 rfl (lv_at hl 0 rfl) ?_
            refine fw_get (ci := 5) (v := .ref (ad 10)) (C := rMo) (T := fMo) (N := 26) hx hb hts iMo hown hK hF.1 hmo rfl 17 (by decide) (hts _ t_525) (fun _ h9 => h9) rfl d_Mo_event_58 ?_
            refine lv_iload_n hx hb d_Mo_event_61 rfl (lv_at hl 1 rfl) ?_
            refine fw_iald hx hb hK hF.1 qa10 (by decide) t rfl (by omega) d_Mo_event_62 ?_
            refine lv_bipush (v := iZ 8) hx hb d_Mo_event_63 (by decide) ?_
            refine zz_icmp_ne (tgt := 71) hx hb d_Mo_event_65 (by decide) ⟨by omega, by omega⟩ ⟨by omega, by omega⟩ (fun c65 => ?_) (fun c65 => ?_)
            · have e0 : enR N (t : Int) = 0 := by rw [enR, if_neg nz1, Int.toNat_natCast, if_neg (by omega), if_neg (by omega), if_neg c65]
              refine lv_aload_n hx hb d_Mo_event_71 rfl (lv_at hl 0 rfl) ?_
              refine lv_iload_n hx hb d_Mo_event_72 rfl (lv_at hl 1 rfl) ?_
              refine fw_callv (va_runV (As := [.int (iZ ((t : Int)))]) (rest := []) ⟨hx, hb, hml, hown, hts⟩ (c_Mo_letGo l g w s.heap.size b ad N O tb t hM0 hI0 hO ht (by omega)) (cwV 1 hts (gdV k_Mo_letGo t_619 t_621 t_37 t_50) rfl rfl rfl (by decide +kernel) ⟨Nat.le_of_ble_eq_true rfl, Nat.le_of_ble_eq_true rfl⟩) ⟨rwP_blind, fw_recv hK hF.1 hmo rfl, rwP_pre hK hT hA hF⟩ rfl rfl hl.1 rfl (lv_room (Nat.le_of_ble_eq_true rfl)) d_Mo_event_73 ⟨by decide, by decide⟩) hF hA (fun w3 H locs hp4 hz hF => ?_)
              obtain ⟨k1, k2⟩ := hp4
              refine lv_iconst (v := iZ 0) hx hb d_Mo_event_76 rfl ?_
              exact rw_iret hx hb hr hlocks d_Mo_event_77 (by omega) (by omega) hF ⟨congrArg iZ e0.symm, (by rw [enM, if_pos e0]; exact k1), k2⟩
            · refine lv_bipush (v := iZ (-2)) hx hb d_Mo_event_68 (by decide) ?_
              exact rw_iret hx hb hr hlocks d_Mo_event_70 (by omega) (by omega) hF ⟨congrArg iZ ((by rw [enR, if_neg nz1, Int.toNat_natCast, if_neg (by omega), if_neg (by omega), if_pos c65] : enR N (t : Int) = -2)).symm, (by rw [enM, if_neg (by rw [(by rw [enR, if_neg nz1, Int.toNat_natCast, if_neg (by omega), if_neg (by omega), if_pos c65] : enR N (t : Int) = -2)]; decide)]; exact hM0), fun q _ => rfl⟩
          · refine lv_iconst (v := iZ (-1)) hx hb d_Mo_event_55 rfl ?_
            exact rw_iret hx hb hr hlocks d_Mo_event_56 (by omega) (by omega) hF ⟨congrArg iZ ((by rw [enR, if_neg nz1, Int.toNat_natCast, if_neg (by omega), if_pos ⟨c32, c52⟩] : enR N (t : Int) = -1)).symm, (by rw [enM, if_neg (by rw [(by rw [enR, if_neg nz1, Int.toNat_natCast, if_neg (by omega), if_pos ⟨c32, c52⟩] : enR N (t : Int) = -1)]; decide)]; exact hM0), fun q _ => rfl⟩
      · refine lv_iconst (v := iZ (-1)) hx hb d_Mo_event_24 rfl ?_
        exact rw_iret hx hb hr hlocks d_Mo_event_25 (by omega) (by omega) hF ⟨congrArg iZ ((by rw [enR, if_neg nz1, Int.toNat_natCast, if_pos c21] : enR N (t : Int) = -1)).symm, (by rw [enM, if_neg (by rw [(by rw [enR, if_neg nz1, Int.toNat_natCast, if_pos c21] : enR N (t : Int) = -1)]; decide)]; exact hM0), fun q _ => rfl⟩

set_option maxHeartbeats 4000000 in
set_option maxRecDepth 100000 in
theorem c_Mo_section (l : Launch) (g : GG) (w : fw) (sz : Nat) (b : Nat) (ad : Nat → Nat) (N : MoM) (O : Nat → Prop) (tb : Int) (v o1 x1 y1 : Int) (hM : MoP g w b ad N) (hI : MoI N tb) (hO : MoO O b ad) (hr_0 : ir v) (hr_1 : ir o1) (hr_2 : ir x1) (hr_3 : ir y1) : RWi l y_Mo_section w_Mo_section ({ frames := 1, cells := 0, slots := 0, locals := 23 }) g w sz [.ref b, .int (iZ v), .int (iZ o1), .int (iZ x1), .int (iZ y1)] 0 0 ((fun rr1 w1 => rr1 = iZ (sxR N v o1 x1 y1) ∧ MoP g w1 b ad (sxM N v o1 x1 y1) ∧ ∀ q, ¬ O q → w1 q = w q)) := by
  refine rw_go (by decide) rfl (Nat.le_of_ble_eq_true rfl) ?_
  intro p e s m below meth c hx hb hr hml hown hts hlocks hin hsz hK hT hA hF ls hl
  subst hsz
  have hown : s.vm.findClass rMo = some m.cls := hown
  have hl : lv_has ls 6 [(0, .ref b), (1, .int (iZ v)), (2, .int (iZ o1)), (3, .int (iZ x1)), (4, .int (iZ y1))] := hl
  have hI0 := hI
  have hM0 := hM
  obtain ⟨hmo, qa0, qa1, qa2, qa3, qa4, qa5, qa6, qa7, qa8, qa9, qa10, qa11, qa12, qa13, qa14, qa15, qa16, qa17, qa18, hinj⟩ := hM
  obtain ⟨itb, in6, iti, ila, ibu, ice, ion, ifr, ilo, ire, itk⟩ := hI
  obtain ⟨hr_0a, hr_0b⟩ := hr_0
  obtain ⟨hr_1a, hr_1b⟩ := hr_1
  obtain ⟨hr_2a, hr_2b⟩ := hr_2
  obtain ⟨hr_3a, hr_3b⟩ := hr_3
  refine lv_aload_n hx hb d_Mo_section_0 rfl (lv_at hl 0 rfl) ?_
  refine lv_iload_n hx hb d_Mo_section_1 rfl (lv_at hl 2 rfl) ?_
  refine lv_iconst (v := iZ 0) hx hb d_Mo_section_2 rfl ?_
  refine lv_iconst (v := iZ 3) hx hb d_Mo_section_3 rfl ?_
  refine fw_ro (r := .int (bZ (decide (o1 < 0 ∨ 3 < o1)))) (va_runV (As := [.int (iZ o1), .int (iZ 0), .int (iZ 3)]) (rest := []) ⟨hx, hb, hml, hown, hts⟩ (c_Mo_out l g w b ad N tb o1 0 3 hM0 ⟨by omega, by omega⟩ ⟨by omega, by omega⟩ ⟨by omega, by omega⟩) (cwV 3 hts (gdV k_Mo_out t_591 t_593 t_34 t_50) rfl rfl rfl (by decide +kernel) ⟨Nat.le_of_ble_eq_true rfl, Nat.le_of_ble_eq_true rfl⟩) ⟨roP_blind, fw_recv hK hF.1 hmo rfl, roP_pre hK hF.1⟩ rfl rfl hl.1 rfl (lv_room (Nat.le_of_ble_eq_true rfl)) d_Mo_section_4 ⟨by decide, by decide⟩) ?_
  refine zb_if_ne (tgt := 61) hx hb d_Mo_section_7 (by decide) (fun c7 => ?_) (fun c7 => ?_)
  · refine lv_iconst (v := iZ (-1)) hx hb d_Mo_section_61 rfl ?_
    exact rw_iret hx hb hr hlocks d_Mo_section_62 (by omega) (by omega) hF ⟨congrArg iZ ((by rw [sxR, if_pos (Or.inl (of_decide_eq_true c7))] : sxR N v o1 x1 y1 = -1)).symm, (by rw [sxM, if_neg (by rw [(by rw [sxR, if_pos (Or.inl (of_decide_eq_true c7))] : sxR N v o1 x1 y1 = -1)]; decide)]; exact hM0), fun q _ => rfl⟩
  · refine lv_aload_n hx hb d_Mo_section_10 rfl (lv_at hl 0 rfl) ?_
    refine lv_iload_n hx hb d_Mo_section_11 rfl (lv_at hl 3 rfl) ?_
    refine lv_iconst (v := iZ 0) hx hb d_Mo_section_12 rfl ?_
    refine lv_bipush (v := iZ 59) hx hb d_Mo_section_13 (by decide) ?_
    refine fw_ro (r := .int (bZ (decide (x1 < 0 ∨ 59 < x1)))) (va_runV (As := [.int (iZ x1), .int (iZ 0), .int (iZ 59)]) (rest := []) ⟨hx, hb, hml, hown, hts⟩ (c_Mo_out l g w b ad N tb x1 0 59 hM0 ⟨by omega, by omega⟩ ⟨by omega, by omega⟩ ⟨by omega, by omega⟩) (cwV 3 hts (gdV k_Mo_out t_591 t_593 t_34 t_50) rfl rfl rfl (by decide +kernel) ⟨Nat.le_of_ble_eq_true rfl, Nat.le_of_ble_eq_true rfl⟩) ⟨roP_blind, fw_recv hK hF.1 hmo rfl, roP_pre hK hF.1⟩ rfl rfl hl.1 rfl (lv_room (Nat.le_of_ble_eq_true rfl)) d_Mo_section_15 ⟨by decide, by decide⟩) ?_
    refine zb_if_ne (tgt := 61) hx hb d_Mo_section_18 (by decide) (fun c18 => ?_) (fun c18 => ?_)
    · refine lv_iconst (v := iZ (-1)) hx hb d_Mo_section_61 rfl ?_
      exact rw_iret hx hb hr hlocks d_Mo_section_62 (by omega) (by omega) hF ⟨congrArg iZ ((by rw [sxR, if_pos (Or.inr (Or.inl (of_decide_eq_true c18)))] : sxR N v o1 x1 y1 = -1)).symm, (by rw [sxM, if_neg (by rw [(by rw [sxR, if_pos (Or.inr (Or.inl (of_decide_eq_true c18)))] : sxR N v o1 x1 y1 = -1)]; decide)]; exact hM0), fun q _ => rfl⟩
    · refine lv_aload_n hx hb d_Mo_section_21 rfl (lv_at hl 0 rfl) ?_
      refine lv_iload hx hb d_Mo_section_22 (lv_at hl 4 rfl) ?_
      refine lv_iconst (v := iZ 1) hx hb d_Mo_section_24 rfl ?_
      refine lv_bipush (v := iZ 60) hx hb d_Mo_section_25 (by decide) ?_
      refine fw_ro (r := .int (bZ (decide (y1 < 1 ∨ 60 < y1)))) (va_runV (As := [.int (iZ y1), .int (iZ 1), .int (iZ 60)]) (rest := []) ⟨hx, hb, hml, hown, hts⟩ (c_Mo_out l g w b ad N tb y1 1 60 hM0 ⟨by omega, by omega⟩ ⟨by omega, by omega⟩ ⟨by omega, by omega⟩) (cwV 3 hts (gdV k_Mo_out t_591 t_593 t_34 t_50) rfl rfl rfl (by decide +kernel) ⟨Nat.le_of_ble_eq_true rfl, Nat.le_of_ble_eq_true rfl⟩) ⟨roP_blind, fw_recv hK hF.1 hmo rfl, roP_pre hK hF.1⟩ rfl rfl hl.1 rfl (lv_room (Nat.le_of_ble_eq_true rfl)) d_Mo_section_27 ⟨by decide, by decide⟩) ?_
      refine zb_if_ne (tgt := 61) hx hb d_Mo_section_30 (by decide) (fun c30 => ?_) (fun c30 => ?_)
      · refine lv_iconst (v := iZ (-1)) hx hb d_Mo_section_61 rfl ?_
        exact rw_iret hx hb hr hlocks d_Mo_section_62 (by omega) (by omega) hF ⟨congrArg iZ ((by rw [sxR, if_pos (Or.inr (Or.inr (Or.inl (of_decide_eq_true c30))))] : sxR N v o1 x1 y1 = -1)).symm, (by rw [sxM, if_neg (by rw [(by rw [sxR, if_pos (Or.inr (Or.inr (Or.inl (of_decide_eq_true c30))))] : sxR N v o1 x1 y1 = -1)]; decide)]; exact hM0), fun q _ => rfl⟩
      · refine lv_aload_n hx hb d_Mo_section_33 rfl (lv_at hl 0 rfl) ?_
        refine fw_get (ci := 5) (v := .int (bZ (nSt N))) (C := rMo) (T := fMo) (N := 26) hx hb hts iMo hown hK hF.1 hmo rfl 6 (by decide) (hts _ t_514) (fun _ h9 => h9) rfl d_Mo_section_34 ?_
        refine zb_if_ne (tgt := 61) hx hb d_Mo_section_37 (by decide) (fun c37 => ?_) (fun c37 => ?_)
        · refine lv_iconst (v := iZ (-1)) hx hb d_Mo_section_61 rfl ?_
          exact rw_iret hx hb hr hlocks d_Mo_section_62 (by omega) (by omega) hF ⟨congrArg iZ ((by rw [sxR, if_pos (Or.inr (Or.inr (Or.inr (Or.inl c37))))] : sxR N v o1 x1 y1 = -1)).symm, (by rw [sxM, if_neg (by rw [(by rw [sxR, if_pos (Or.inr (Or.inr (Or.inr (Or.inl c37))))] : sxR N v o1 x1 y1 = -1)]; decide)]; exact hM0), fun q _ => rfl⟩
        · refine lv_aload_n hx hb d_Mo_section_40 rfl (lv_at hl 0 rfl) ?_
          refine lv_iload_n hx hb d_Mo_section_41 rfl (lv_at hl 1 rfl) ?_
          refine fw_ro (r := .int (bZ (decide (v < 0 ∨ (nTa N : Int) ≤ v)))) (va_runV (As := [.int (iZ v)]) (rest := []) ⟨hx, hb, hml, hown, hts⟩ (c_Mo_no l g w b ad N tb v hM0 hI0 ⟨by omega, by omega⟩) (cwV 1 hts (gdV k_Mo_no t_603 t_605 t_35 t_50) rfl rfl rfl (by decide +kernel) ⟨Nat.le_of_ble_eq_true rfl, Nat.le_of_ble_eq_true rfl⟩) ⟨roP_blind, fw_recv hK hF.1 hmo rfl, roP_pre hK hF.1⟩ rfl rfl hl.1 rfl (lv_room (Nat.le_of_ble_eq_true rfl)) d_Mo_section_42 ⟨by decide, by decide⟩) ?_
          refine zb_if_ne (tgt := 61) hx hb d_Mo_section_45 (by decide) (fun c45 => ?_) (fun c45 => ?_)
          · refine lv_iconst (v := iZ (-1)) hx hb d_Mo_section_61 rfl ?_
            exact rw_iret hx hb hr hlocks d_Mo_section_62 (by omega) (by omega) hF ⟨congrArg iZ ((by rw [sxR, if_pos (Or.inr (Or.inr (Or.inr (Or.inr (of_decide_eq_true c45)))))] : sxR N v o1 x1 y1 = -1)).symm, (by rw [sxM, if_neg (by rw [(by rw [sxR, if_pos (Or.inr (Or.inr (Or.inr (Or.inr (of_decide_eq_true c45)))))] : sxR N v o1 x1 y1 = -1)]; decide)]; exact hM0), fun q _ => rfl⟩
          · have n7 := of_decide_eq_false c7
            have n18 := of_decide_eq_false c18
            have n30 := of_decide_eq_false c30
            have n45 := of_decide_eq_false c45
            obtain ⟨t, et⟩ := Int.eq_ofNat_of_zero_le (show 0 ≤ v by omega)
            subst et
            have ht : t < nTa N := by omega
            obtain ⟨r0t, r1t, r2t, r3t, r4t, r6t, r10t, r12t, r16t⟩ := itk t ht
            have nz1 : ¬ ((o1 < 0 ∨ 3 < o1) ∨ (x1 < 0 ∨ 59 < x1) ∨ (y1 < 1 ∨ 60 < y1) ∨ nSt N = true ∨ ((t : Int) < 0 ∨ (nTa N : Int) ≤ (t : Int))) := fun z => z.elim n7 (fun z => z.elim n18 (fun z => z.elim n30 (fun z => z.elim (fun z => by rw [c37] at z; cases z) n45)))
            refine lv_iload_n hx hb d_Mo_section_48 rfl (lv_at hl 3 rfl) ?_
            refine lv_iload hx hb d_Mo_section_49 (lv_at hl 4 rfl) ?_
            refine zz_iadd hx hb d_Mo_section_51 ?_
            refine lv_aload_n hx hb d_Mo_section_52 rfl (lv_at hl 0 rfl) ?_
            refine fw_get (ci := 5) (v := .ref (ad 1)) (C := rMo) (T := fMo) (N := 26) hx hb hts iMo hown hK hF.1 hmo rfl 8 (by decide) (hts _ t_516) (fun _ h9 => h9) rfl d_Mo_section_53 ?_
            refine lv_iload_n hx hb d_Mo_section_56 rfl (lv_at hl 1 rfl) ?_
            refine fw_iald hx hb hK hF.1 qa1 (by decide) t rfl (by omega) d_Mo_section_57 ?_
            refine zz_icmp_le (tgt := 63) hx hb d_Mo_section_58 (by decide) ⟨by omega, by omega⟩ ⟨by omega, by omega⟩ (fun c58 => ?_) (fun c58 => ?_)
            · refine lv_iload_n hx hb d_Mo_section_63 rfl (lv_at hl 3 rfl) ?_
              refine lv_istore (lv' := [(5, .int (iZ x1)), (0, .ref b), (1, .int (iZ ((t : Int)))), (2, .int (iZ o1)), (3, .int (iZ x1)), (4, .int (iZ y1))]) hx hb d_Mo_section_64 hl (by decide) rfl (fun ls hl => ?_)
              have lp : ∀ (f i : Nat) (u : Int), i + f = y1.toNat → (sxF N t y1.toNat x1 = sxF N t f u) → (u = x1 + (i : Int)) → ∀ ls : Array Slot, lv_has ls 6 [(5, .int (iZ u)), (0, .ref b), (1, .int (iZ ((t : Int)))), (2, .int (iZ o1)), (3, .int (iZ x1)), (4, .int (iZ y1))] → W p l e ({ frames := 1, cells := 0, slots := 0, locals := 23 }) s m ([.ref b, .int (iZ (t : Int)), .int (iZ o1), .int (iZ x1), .int (iZ y1)] : List Value).toArray below meth c s.heap [] 0 0 (MQ below (va_Qi ((fun rr1 w1 => rr1 = iZ (sxR N (t : Int) o1 x1 y1) ∧ MoP g w1 b ad (sxM N (t : Int) o1 x1 y1) ∧ ∀ q, ¬ O q → w1 q = w q)) (rwB g w s.heap.size) (fA w s.heap.size)) ([.ref b, .int (iZ (t : Int)), .int (iZ o1), .int (iZ x1), .int (iZ y1)] : List Value).toArray s 0 0 (fA w s.heap.size)) (F0 m 66 ls []) := by
                intro f
                induction f with
                | zero =>
                  intro i u hif hv hu ls hl
                  refine lv_iload hx hb d_Mo_section_66 (lv_at hl 0 rfl) ?_
                  refine lv_iload_n hx hb d_Mo_section_68 rfl (lv_at hl 4 rfl) ?_
                  refine lv_iload hx hb d_Mo_section_69 (lv_at hl 5 rfl) ?_
                  refine zz_iadd hx hb d_Mo_section_71 ?_
                  refine zz_icmp_ge (tgt := 93) hx hb d_Mo_section_72 (by decide) ⟨by omega, by omega⟩ ⟨by omega, by omega⟩ (fun c72 => ?_) (fun c72 => ?_)
                  · have h5 := ice o1.toNat
                    have nv : ¬ sxF N t y1.toNat x1 = true := by rw [hv]; exact Bool.false_ne_true
                    refine lv_aload_n hx hb d_Mo_section_93 rfl (lv_at hl 1 rfl) ?_
                    refine fw_get (ci := 5) (v := .ref (ad 5)) (C := rMo) (T := fMo) (N := 26) hx hb hts iMo hown hK hF.1 hmo rfl 12 (by decide) (hts _ t_520) (fun _ h9 => h9) rfl d_Mo_section_94 ?_
                    refine lv_iload_n hx hb d_Mo_section_97 rfl (lv_at hl 3 rfl) ?_
                    refine fw_iald hx hb hK hF.1 qa5 (by decide) o1.toNat (by omega) (by omega) d_Mo_section_98 ?_
                    refine lv_aload_n hx hb d_Mo_section_99 rfl (lv_at hl 1 rfl) ?_
                    refine fw_get (ci := 5) (v := .ref (ad 3)) (C := rMo) (T := fMo) (N := 26) hx hb hts iMo hown hK hF.1 hmo rfl 10 (by decide) (hts _ t_518) (fun _ h9 => h9) rfl d_Mo_section_100 ?_
                    refine lv_iload_n hx hb d_Mo_section_103 rfl (lv_at hl 2 rfl) ?_
                    refine fw_iald hx hb hK hF.1 qa3 (by decide) t rfl (by omega) d_Mo_section_104 ?_
                    refine zz_icmp_ge (tgt := 110) hx hb d_Mo_section_105 (by decide) ⟨by omega, by omega⟩ ⟨by omega, by omega⟩ (fun c105 => ?_) (fun c105 => ?_)
                    · refine lv_aload_n hx hb d_Mo_section_110 rfl (lv_at hl 1 rfl) ?_
                      refine fw_get (ci := 5) (v := .ref (ad 6)) (C := rMo) (T := fMo) (N := 26) hx hb hts iMo hown hK hF.1 hmo rfl 13 (by decide) (hts _ t_521) (fun _ h9 => h9) rfl d_Mo_section_111 ?_
                      refine lv_iload_n hx hb d_Mo_section_114 rfl (lv_at hl 2 rfl) ?_
                      refine fw_iald hx hb hK hF.1 qa6 (by decide) t rfl (by omega) d_Mo_section_115 ?_
                      refine lv_iconst (v := iZ 3) hx hb d_Mo_section_116 rfl ?_
                      refine zz_icmp_ne (tgt := 123) hx hb d_Mo_section_117 (by decide) ⟨by omega, by omega⟩ ⟨by omega, by omega⟩ (fun c117 => ?_) (fun c117 => ?_)
                      · have e0 : sxR N (t : Int) o1 x1 y1 = 0 := by rw [sxR, if_neg nz1, Int.toNat_natCast, if_neg (by omega), if_neg nv, if_neg (by omega), if_neg c117]
                        refine lv_iload_n hx hb d_Mo_section_123 rfl (lv_at hl 2 rfl) ?_
                        refine lv_iconst (v := iZ 3) hx hb d_Mo_section_124 rfl ?_
                        refine zz_imul hx hb d_Mo_section_125 ?_
                        refine lv_aload_n hx hb d_Mo_section_126 rfl (lv_at hl 1 rfl) ?_
                        refine fw_get (ci := 5) (v := .ref (ad 6)) (C := rMo) (T := fMo) (N := 26) hx hb hts iMo hown hK hF.1 hmo rfl 13 (by decide) (hts _ t_521) (fun _ h9 => h9) rfl d_Mo_section_127 ?_
                        refine lv_iload_n hx hb d_Mo_section_130 rfl (lv_at hl 2 rfl) ?_
                        refine fw_iald hx hb hK hF.1 qa6 (by decide) t rfl (by omega) d_Mo_section_131 ?_
                        refine zz_iadd hx hb d_Mo_section_132 ?_
                        refine lv_istore (lv' := [(5, .int (iZ ((((t : Int)) * 3) + ((nA N 6) t)))), (0, .ref b), (1, .int (iZ ((t : Int)))), (2, .int (iZ o1)), (3, .int (iZ x1)), (4, .int (iZ y1))]) hx hb d_Mo_section_133 hl (by decide) rfl (fun ls hl => ?_)
                        refine lv_aload_n hx hb d_Mo_section_135 rfl (lv_at hl 1 rfl) ?_
                        refine fw_get (ci := 5) (v := .ref (ad 7)) (C := rMo) (T := fMo) (N := 26) hx hb hts iMo hown hK hF.1 hmo rfl 14 (by decide) (hts _ t_522) (fun _ h9 => h9) rfl d_Mo_section_136 ?_
                        refine lv_iload hx hb d_Mo_section_139 (lv_at hl 0 rfl) ?_
                        refine lv_iload_n hx hb d_Mo_section_141 rfl (lv_at hl 3 rfl) ?_
                        refine fw_iast (x := o1) hx hb hK hF qa7 (by decide) ((t * 3 + (nA N 6 t).toNat)) (by omega) (by omega) d_Mo_section_142 (fun H locs hF => ?_)
                        obtain ⟨w1, ew1⟩ : ∃ zw : fw, zw = fU w (ad 7) (aZ g.2.1 18 (va_up (nA N 7) ((t * 3 + (nA N 6 t).toNat)) o1)) := ⟨_, rfl⟩
                        have hF := fW_to ew1 hF
                        have h2 : w1 b = some (.inr (5, [.int (iZ ((nTa N : Int))), .int (iZ (nTi N)), .int (iZ (nId N)), .int (iZ (nSw N)), .int (iZ (nLa N)), .int (iZ (nBu N)), .int (bZ (nSt N)), .ref (ad 0), .ref (ad 1), .ref (ad 2), .ref (ad 3), .ref (ad 4), .ref (ad 5), .ref (ad 6), .ref (ad 7), .ref (ad 8), .ref (ad 9), .ref (ad 10), .ref (ad 11), .ref (ad 12), .ref (ad 13), .ref (ad 14), .ref (ad 15), .ref (ad 16), .ref (ad 17), .ref (ad 18)])) := by rw [ew1]; exact fU_k (fw_ne hmo qa7 ne_rl) hmo
                        have h3 : w1 (ad 0) = some (aZ g.2.1 6 (nA N 0)) := by rw [ew1]; exact fU_k (hinj 0 7 (by decide) (by decide) (by decide)) qa0
                        have h4 : w1 (ad 1) = some (aZ g.2.1 6 (nA N 1)) := by rw [ew1]; exact fU_k (hinj 1 7 (by decide) (by decide) (by decide)) qa1
                        have h5 : w1 (ad 2) = some (aZ g.2.1 6 (nA N 2)) := by rw [ew1]; exact fU_k (hinj 2 7 (by decide) (by decide) (by decide)) qa2
                        have h6 : w1 (ad 3) = some (aZ g.2.1 6 (nA N 3)) := by rw [ew1]; exact fU_k (hinj 3 7 (by decide) (by decide) (by decide)) qa3
                        have h7 : w1 (ad 4) = some (aZ g.2.1 6 (nA N 4)) := by rw [ew1]; exact fU_k (hinj 4 7 (by decide) (by decide) (by decide)) qa4
                        have h8 : w1 (ad 5) = some (aZ g.2.1 4 (nA N 5)) := by rw [ew1]; exact fU_k (hinj 5 7 (by decide) (by decide) (by decide)) qa5
                        have h9 : w1 (ad 6) = some (aZ g.2.1 6 (nA N 6)) := by rw [ew1]; exact fU_k (hinj 6 7 (by decide) (by decide) (by decide)) qa6
                        have h10 : w1 (ad 7) = some (aZ g.2.1 18 (va_up (nA N 7) ((t * 3 + (nA N 6 t).toNat)) o1)) := by rw [ew1]; exact fU_s _ _ _
                        have h11 : w1 (ad 8) = some (aZ g.2.1 18 (nA N 8)) := by rw [ew1]; exact fU_k (hinj 8 7 (by decide) (by decide) (by decide)) qa8
                        have h12 : w1 (ad 9) = some (aZ g.2.1 18 (nA N 9)) := by rw [ew1]; exact fU_k (hinj 9 7 (by decide) (by decide) (by decide)) qa9
                        have h13 : w1 (ad 10) = some (aZ g.2.1 6 (nA N 10)) := by rw [ew1]; exact fU_k (hinj 10 7 (by decide) (by decide) (by decide)) qa10
                        have h14 : w1 (ad 11) = some (aZ g.2.1 48 (nA N 11)) := by rw [ew1]; exact fU_k (hinj 11 7 (by decide) (by decide) (by decide)) qa11
                        have h15 : w1 (ad 12) = some (aZ g.2.1 6 (nA N 12)) := by rw [ew1]; exact fU_k (hinj 12 7 (by decide) (by decide) (by decide)) qa12
                        have h16 : w1 (ad 13) = some (aZ g.2.1 6 (nA N 13)) := by rw [ew1]; exact fU_k (hinj 13 7 (by decide) (by decide) (by decide)) qa13
                        have h17 : w1 (ad 14) = some (aZ g.2.1 6 (nA N 14)) := by rw [ew1]; exact fU_k (hinj 14 7 (by decide) (by decide) (by decide)) qa14
                        have h18 : w1 (ad 15) = some (aZ g.2.1 6 (nA N 15)) := by rw [ew1]; exact fU_k (hinj 15 7 (by decide) (by decide) (by decide)) qa15
                        have h19 : w1 (ad 16) = some (aZ g.2.1 6 (nA N 16)) := by rw [ew1]; exact fU_k (hinj 16 7 (by decide) (by decide) (by decide)) qa16
                        have h20 : w1 (ad 17) = some (aZ g.2.1 6 (nA N 17)) := by rw [ew1]; exact fU_k (hinj 17 7 (by decide) (by decide) (by decide)) qa17
                        have h21 : w1 (ad 18) = some (aZ g.2.1 64 (nA N 18)) := by rw [ew1]; exact fU_k (hinj 18 7 (by decide) (by decide) (by decide)) qa18
                        refine lv_aload_n hx hb d_Mo_section_143 rfl (lv_at hl 1 rfl) ?_
                        refine fw_get (ci := 5) (v := .ref (ad 8)) (C := rMo) (T := fMo) (N := 26) hx hb hts iMo hown hK hF.1 h2 rfl 15 (by decide) (hts _ t_523) (fun _ h9 => h9) rfl d_Mo_section_144 ?_
                        refine lv_iload hx hb d_Mo_section_147 (lv_at hl 0 rfl) ?_
                        refine lv_iload_n hx hb d_Mo_section_149 rfl (lv_at hl 4 rfl) ?_
                        refine fw_iast (x := x1) hx hb hK hF h11 (by decide) ((t * 3 + (nA N 6 t).toNat)) (by omega) (by omega) d_Mo_section_150 (fun H locs hF => ?_)
                        obtain ⟨w22, ew22⟩ : ∃ zw : fw, zw = fU w1 (ad 8) (aZ g.2.1 18 (va_up (nA N 8) ((t * 3 + (nA N 6 t).toNat)) x1)) := ⟨_, rfl⟩
                        have hF := fW_to ew22 hF
                        have h23 : w22 b = some (.inr (5, [.int (iZ ((nTa N : Int))), .int (iZ (nTi N)), .int (iZ (nId N)), .int (iZ (nSw N)), .int (iZ (nLa N)), .int (iZ (nBu N)), .int (bZ (nSt N)), .ref (ad 0), .ref (ad 1), .ref (ad 2), .ref (ad 3), .ref (ad 4), .ref (ad 5), .ref (ad 6), .ref (ad 7), .ref (ad 8), .ref (ad 9), .ref (ad 10), .ref (ad 11), .ref (ad 12), .ref (ad 13), .ref (ad 14), .ref (ad 15), .ref (ad 16), .ref (ad 17), .ref (ad 18)])) := by rw [ew22]; exact fU_k (fw_ne h2 h11 ne_rl) h2
                        have h24 : w22 (ad 0) = some (aZ g.2.1 6 (nA N 0)) := by rw [ew22]; exact fU_k (hinj 0 8 (by decide) (by decide) (by decide)) h3
                        have h25 : w22 (ad 1) = some (aZ g.2.1 6 (nA N 1)) := by rw [ew22]; exact fU_k (hinj 1 8 (by decide) (by decide) (by decide)) h4
                        have h26 : w22 (ad 2) = some (aZ g.2.1 6 (nA N 2)) := by rw [ew22]; exact fU_k (hinj 2 8 (by decide) (by decide) (by decide)) h5
                        have h27 : w22 (ad 3) = some (aZ g.2.1 6 (nA N 3)) := by rw [ew22]; exact fU_k (hinj 3 8 (by decide) (by decide) (by decide)) h6
                        have h28 : w22 (ad 4) = some (aZ g.2.1 6 (nA N 4)) := by rw [ew22]; exact fU_k (hinj 4 8 (by decide) (by decide) (by decide)) h7
                        have h29 : w22 (ad 5) = some (aZ g.2.1 4 (nA N 5)) := by rw [ew22]; exact fU_k (hinj 5 8 (by decide) (by decide) (by decide)) h8
                        have h30 : w22 (ad 6) = some (aZ g.2.1 6 (nA N 6)) := by rw [ew22]; exact fU_k (hinj 6 8 (by decide) (by decide) (by decide)) h9
                        have h31 : w22 (ad 7) = some (aZ g.2.1 18 (va_up (nA N 7) ((t * 3 + (nA N 6 t).toNat)) o1)) := by rw [ew22]; exact fU_k (hinj 7 8 (by decide) (by decide) (by decide)) h10
                        have h32 : w22 (ad 8) = some (aZ g.2.1 18 (va_up (nA N 8) ((t * 3 + (nA N 6 t).toNat)) x1)) := by rw [ew22]; exact fU_s _ _ _
                        have h33 : w22 (ad 9) = some (aZ g.2.1 18 (nA N 9)) := by rw [ew22]; exact fU_k (hinj 9 8 (by decide) (by decide) (by decide)) h12
                        have h34 : w22 (ad 10) = some (aZ g.2.1 6 (nA N 10)) := by rw [ew22]; exact fU_k (hinj 10 8 (by decide) (by decide) (by decide)) h13
                        have h35 : w22 (ad 11) = some (aZ g.2.1 48 (nA N 11)) := by rw [ew22]; exact fU_k (hinj 11 8 (by decide) (by decide) (by decide)) h14
                        have h36 : w22 (ad 12) = some (aZ g.2.1 6 (nA N 12)) := by rw [ew22]; exact fU_k (hinj 12 8 (by decide) (by decide) (by decide)) h15
                        have h37 : w22 (ad 13) = some (aZ g.2.1 6 (nA N 13)) := by rw [ew22]; exact fU_k (hinj 13 8 (by decide) (by decide) (by decide)) h16
                        have h38 : w22 (ad 14) = some (aZ g.2.1 6 (nA N 14)) := by rw [ew22]; exact fU_k (hinj 14 8 (by decide) (by decide) (by decide)) h17
                        have h39 : w22 (ad 15) = some (aZ g.2.1 6 (nA N 15)) := by rw [ew22]; exact fU_k (hinj 15 8 (by decide) (by decide) (by decide)) h18
                        have h40 : w22 (ad 16) = some (aZ g.2.1 6 (nA N 16)) := by rw [ew22]; exact fU_k (hinj 16 8 (by decide) (by decide) (by decide)) h19
                        have h41 : w22 (ad 17) = some (aZ g.2.1 6 (nA N 17)) := by rw [ew22]; exact fU_k (hinj 17 8 (by decide) (by decide) (by decide)) h20
                        have h42 : w22 (ad 18) = some (aZ g.2.1 64 (nA N 18)) := by rw [ew22]; exact fU_k (hinj 18 8 (by decide) (by decide) (by decide)) h21
                        refine lv_aload_n hx hb d_Mo_section_151 rfl (lv_at hl 1 rfl) ?_
                        refine fw_get (ci := 5) (v := .ref (ad 9)) (C := rMo) (T := fMo) (N := 26) hx hb hts iMo hown hK hF.1 h23 rfl 16 (by decide) (hts _ t_524) (fun _ h9 => h9) rfl d_Mo_section_152 ?_
                        refine lv_iload hx hb d_Mo_section_155 (lv_at hl 0 rfl) ?_
                        refine lv_iload hx hb d_Mo_section_157 (lv_at hl 5 rfl) ?_
                        refine fw_iast (x := y1) hx hb hK hF h33 (by decide) ((t * 3 + (nA N 6 t).toNat)) (by omega) (by omega) d_Mo_section_159 (fun H locs hF => ?_)
                        obtain ⟨w43, ew43⟩ : ∃ zw : fw, zw = fU w22 (ad 9) (aZ g.2.1 18 (va_up (nA N 9) ((t * 3 + (nA N 6 t).toNat)) y1)) := ⟨_, rfl⟩
                        have hF := fW_to ew43 hF
                        have h44 : w43 b = some (.inr (5, [.int (iZ ((nTa N : Int))), .int (iZ (nTi N)), .int (iZ (nId N)), .int (iZ (nSw N)), .int (iZ (nLa N)), .int (iZ (nBu N)), .int (bZ (nSt N)), .ref (ad 0), .ref (ad 1), .ref (ad 2), .ref (ad 3), .ref (ad 4), .ref (ad 5), .ref (ad 6), .ref (ad 7), .ref (ad 8), .ref (ad 9), .ref (ad 10), .ref (ad 11), .ref (ad 12), .ref (ad 13), .ref (ad 14), .ref (ad 15), .ref (ad 16), .ref (ad 17), .ref (ad 18)])) := by rw [ew43]; exact fU_k (fw_ne h23 h33 ne_rl) h23
                        have h45 : w43 (ad 0) = some (aZ g.2.1 6 (nA N 0)) := by rw [ew43]; exact fU_k (hinj 0 9 (by decide) (by decide) (by decide)) h24
                        have h46 : w43 (ad 1) = some (aZ g.2.1 6 (nA N 1)) := by rw [ew43]; exact fU_k (hinj 1 9 (by decide) (by decide) (by decide)) h25
                        have h47 : w43 (ad 2) = some (aZ g.2.1 6 (nA N 2)) := by rw [ew43]; exact fU_k (hinj 2 9 (by decide) (by decide) (by decide)) h26
                        have h48 : w43 (ad 3) = some (aZ g.2.1 6 (nA N 3)) := by rw [ew43]; exact fU_k (hinj 3 9 (by decide) (by decide) (by decide)) h27
                        have h49 : w43 (ad 4) = some (aZ g.2.1 6 (nA N 4)) := by rw [ew43]; exact fU_k (hinj 4 9 (by decide) (by decide) (by decide)) h28
                        have h50 : w43 (ad 5) = some (aZ g.2.1 4 (nA N 5)) := by rw [ew43]; exact fU_k (hinj 5 9 (by decide) (by decide) (by decide)) h29
                        have h51 : w43 (ad 6) = some (aZ g.2.1 6 (nA N 6)) := by rw [ew43]; exact fU_k (hinj 6 9 (by decide) (by decide) (by decide)) h30
                        have h52 : w43 (ad 7) = some (aZ g.2.1 18 (va_up (nA N 7) ((t * 3 + (nA N 6 t).toNat)) o1)) := by rw [ew43]; exact fU_k (hinj 7 9 (by decide) (by decide) (by decide)) h31
                        have h53 : w43 (ad 8) = some (aZ g.2.1 18 (va_up (nA N 8) ((t * 3 + (nA N 6 t).toNat)) x1)) := by rw [ew43]; exact fU_k (hinj 8 9 (by decide) (by decide) (by decide)) h32
                        have h54 : w43 (ad 9) = some (aZ g.2.1 18 (va_up (nA N 9) ((t * 3 + (nA N 6 t).toNat)) y1)) := by rw [ew43]; exact fU_s _ _ _
                        have h55 : w43 (ad 10) = some (aZ g.2.1 6 (nA N 10)) := by rw [ew43]; exact fU_k (hinj 10 9 (by decide) (by decide) (by decide)) h34
                        have h56 : w43 (ad 11) = some (aZ g.2.1 48 (nA N 11)) := by rw [ew43]; exact fU_k (hinj 11 9 (by decide) (by decide) (by decide)) h35
                        have h57 : w43 (ad 12) = some (aZ g.2.1 6 (nA N 12)) := by rw [ew43]; exact fU_k (hinj 12 9 (by decide) (by decide) (by decide)) h36
                        have h58 : w43 (ad 13) = some (aZ g.2.1 6 (nA N 13)) := by rw [ew43]; exact fU_k (hinj 13 9 (by decide) (by decide) (by decide)) h37
                        have h59 : w43 (ad 14) = some (aZ g.2.1 6 (nA N 14)) := by rw [ew43]; exact fU_k (hinj 14 9 (by decide) (by decide) (by decide)) h38
                        have h60 : w43 (ad 15) = some (aZ g.2.1 6 (nA N 15)) := by rw [ew43]; exact fU_k (hinj 15 9 (by decide) (by decide) (by decide)) h39
                        have h61 : w43 (ad 16) = some (aZ g.2.1 6 (nA N 16)) := by rw [ew43]; exact fU_k (hinj 16 9 (by decide) (by decide) (by decide)) h40
                        have h62 : w43 (ad 17) = some (aZ g.2.1 6 (nA N 17)) := by rw [ew43]; exact fU_k (hinj 17 9 (by decide) (by decide) (by decide)) h41
                        have h63 : w43 (ad 18) = some (aZ g.2.1 64 (nA N 18)) := by rw [ew43]; exact fU_k (hinj 18 9 (by decide) (by decide) (by decide)) h42
                        refine lv_aload_n hx hb d_Mo_section_160 rfl (lv_at hl 1 rfl) ?_
                        refine fw_get (ci := 5) (v := .ref (ad 6)) (C := rMo) (T := fMo) (N := 26) hx hb hts iMo hown hK hF.1 h44 rfl 13 (by decide) (hts _ t_521) (fun _ h9 => h9) rfl d_Mo_section_161 ?_
                        refine lv_iload_n hx hb d_Mo_section_164 rfl (lv_at hl 2 rfl) ?_
                        refine lv_dup2_11 hx hb d_Mo_section_165 rfl rfl ?_
                        refine fw_iald hx hb hK hF.1 h51 (by decide) t rfl (by omega) d_Mo_section_166 ?_
                        refine lv_iconst (v := iZ 1) hx hb d_Mo_section_167 rfl ?_
                        refine zz_iadd hx hb d_Mo_section_168 ?_
                        refine fw_iast (x := ((nA N 6) t) + 1) hx hb hK hF h51 (by decide) t rfl (by omega) d_Mo_section_169 (fun H locs hF => ?_)
                        obtain ⟨w64, ew64⟩ : ∃ zw : fw, zw = fU w43 (ad 6) (aZ g.2.1 6 (va_up (nA N 6) t (((nA N 6) t) + 1))) := ⟨_, rfl⟩
                        have hF := fW_to ew64 hF
                        have h65 : w64 b = some (.inr (5, [.int (iZ ((nTa N : Int))), .int (iZ (nTi N)), .int (iZ (nId N)), .int (iZ (nSw N)), .int (iZ (nLa N)), .int (iZ (nBu N)), .int (bZ (nSt N)), .ref (ad 0), .ref (ad 1), .ref (ad 2), .ref (ad 3), .ref (ad 4), .ref (ad 5), .ref (ad 6), .ref (ad 7), .ref (ad 8), .ref (ad 9), .ref (ad 10), .ref (ad 11), .ref (ad 12), .ref (ad 13), .ref (ad 14), .ref (ad 15), .ref (ad 16), .ref (ad 17), .ref (ad 18)])) := by rw [ew64]; exact fU_k (fw_ne h44 h51 ne_rl) h44
                        have h66 : w64 (ad 0) = some (aZ g.2.1 6 (nA N 0)) := by rw [ew64]; exact fU_k (hinj 0 6 (by decide) (by decide) (by decide)) h45
                        have h67 : w64 (ad 1) = some (aZ g.2.1 6 (nA N 1)) := by rw [ew64]; exact fU_k (hinj 1 6 (by decide) (by decide) (by decide)) h46
                        have h68 : w64 (ad 2) = some (aZ g.2.1 6 (nA N 2)) := by rw [ew64]; exact fU_k (hinj 2 6 (by decide) (by decide) (by decide)) h47
                        have h69 : w64 (ad 3) = some (aZ g.2.1 6 (nA N 3)) := by rw [ew64]; exact fU_k (hinj 3 6 (by decide) (by decide) (by decide)) h48
                        have h70 : w64 (ad 4) = some (aZ g.2.1 6 (nA N 4)) := by rw [ew64]; exact fU_k (hinj 4 6 (by decide) (by decide) (by decide)) h49
                        have h71 : w64 (ad 5) = some (aZ g.2.1 4 (nA N 5)) := by rw [ew64]; exact fU_k (hinj 5 6 (by decide) (by decide) (by decide)) h50
                        have h72 : w64 (ad 6) = some (aZ g.2.1 6 (va_up (nA N 6) t (((nA N 6) t) + 1))) := by rw [ew64]; exact fU_s _ _ _
                        have h73 : w64 (ad 7) = some (aZ g.2.1 18 (va_up (nA N 7) ((t * 3 + (nA N 6 t).toNat)) o1)) := by rw [ew64]; exact fU_k (hinj 7 6 (by decide) (by decide) (by decide)) h52
                        have h74 : w64 (ad 8) = some (aZ g.2.1 18 (va_up (nA N 8) ((t * 3 + (nA N 6 t).toNat)) x1)) := by rw [ew64]; exact fU_k (hinj 8 6 (by decide) (by decide) (by decide)) h53
                        have h75 : w64 (ad 9) = some (aZ g.2.1 18 (va_up (nA N 9) ((t * 3 + (nA N 6 t).toNat)) y1)) := by rw [ew64]; exact fU_k (hinj 9 6 (by decide) (by decide) (by decide)) h54
                        have h76 : w64 (ad 10) = some (aZ g.2.1 6 (nA N 10)) := by rw [ew64]; exact fU_k (hinj 10 6 (by decide) (by decide) (by decide)) h55
                        have h77 : w64 (ad 11) = some (aZ g.2.1 48 (nA N 11)) := by rw [ew64]; exact fU_k (hinj 11 6 (by decide) (by decide) (by decide)) h56
                        have h78 : w64 (ad 12) = some (aZ g.2.1 6 (nA N 12)) := by rw [ew64]; exact fU_k (hinj 12 6 (by decide) (by decide) (by decide)) h57
                        have h79 : w64 (ad 13) = some (aZ g.2.1 6 (nA N 13)) := by rw [ew64]; exact fU_k (hinj 13 6 (by decide) (by decide) (by decide)) h58
                        have h80 : w64 (ad 14) = some (aZ g.2.1 6 (nA N 14)) := by rw [ew64]; exact fU_k (hinj 14 6 (by decide) (by decide) (by decide)) h59
                        have h81 : w64 (ad 15) = some (aZ g.2.1 6 (nA N 15)) := by rw [ew64]; exact fU_k (hinj 15 6 (by decide) (by decide) (by decide)) h60
                        have h82 : w64 (ad 16) = some (aZ g.2.1 6 (nA N 16)) := by rw [ew64]; exact fU_k (hinj 16 6 (by decide) (by decide) (by decide)) h61
                        have h83 : w64 (ad 17) = some (aZ g.2.1 6 (nA N 17)) := by rw [ew64]; exact fU_k (hinj 17 6 (by decide) (by decide) (by decide)) h62
                        have h84 : w64 (ad 18) = some (aZ g.2.1 64 (nA N 18)) := by rw [ew64]; exact fU_k (hinj 18 6 (by decide) (by decide) (by decide)) h63
                        refine lv_iconst (v := iZ 0) hx hb d_Mo_section_170 rfl ?_
                        exact rw_iret hx hb hr hlocks d_Mo_section_171 (by omega) (by omega) hF ⟨congrArg iZ e0.symm, (by rw [sxM, if_pos e0]; exact ⟨h65, h66, h67, h68, h69, h70, h71, h72, h73, h74, h75, h76, h77, h78, h79, h80, h81, h82, h83, h84, hinj⟩), fun q hq => by rw [ew64, fU_n (own_ne hq (hO.2 6 (by decide))), ew43, fU_n (own_ne hq (hO.2 9 (by decide))), ew22, fU_n (own_ne hq (hO.2 8 (by decide))), ew1, fU_n (own_ne hq (hO.2 7 (by decide)))]⟩
                      · refine lv_bipush (v := iZ (-2)) hx hb d_Mo_section_120 (by decide) ?_
                        exact rw_iret hx hb hr hlocks d_Mo_section_122 (by omega) (by omega) hF ⟨congrArg iZ ((by rw [sxR, if_neg nz1, Int.toNat_natCast, if_neg (by omega), if_neg nv, if_neg (by omega), if_pos c117] : sxR N (t : Int) o1 x1 y1 = -2)).symm, (by rw [sxM, if_neg (by rw [(by rw [sxR, if_neg nz1, Int.toNat_natCast, if_neg (by omega), if_neg nv, if_neg (by omega), if_pos c117] : sxR N (t : Int) o1 x1 y1 = -2)]; decide)]; exact hM0), fun q _ => rfl⟩
                    · refine lv_iconst (v := iZ (-1)) hx hb d_Mo_section_108 rfl ?_
                      exact rw_iret hx hb hr hlocks d_Mo_section_109 (by omega) (by omega) hF ⟨congrArg iZ ((by rw [sxR, if_neg nz1, Int.toNat_natCast, if_neg (by omega), if_neg nv, if_pos c105] : sxR N (t : Int) o1 x1 y1 = -1)).symm, (by rw [sxM, if_neg (by rw [(by rw [sxR, if_neg nz1, Int.toNat_natCast, if_neg (by omega), if_neg nv, if_pos c105] : sxR N (t : Int) o1 x1 y1 = -1)]; decide)]; exact hM0), fun q _ => rfl⟩
                  · exfalso; omega
                | succ f ih =>
                  intro i u hif hv hu ls hl
                  refine lv_iload hx hb d_Mo_section_66 (lv_at hl 0 rfl) ?_
                  refine lv_iload_n hx hb d_Mo_section_68 rfl (lv_at hl 4 rfl) ?_
                  refine lv_iload hx hb d_Mo_section_69 (lv_at hl 5 rfl) ?_
                  refine zz_iadd hx hb d_Mo_section_71 ?_
                  refine zz_icmp_ge (tgt := 93) hx hb d_Mo_section_72 (by decide) ⟨by omega, by omega⟩ ⟨by omega, by omega⟩ (fun c72 => ?_) (fun c72 => ?_)
                  · exfalso; omega
                  · refine lv_aload_n hx hb d_Mo_section_75 rfl (lv_at hl 1 rfl) ?_
                    refine lv_iload_n hx hb d_Mo_section_76 rfl (lv_at hl 2 rfl) ?_
                    refine lv_iload hx hb d_Mo_section_77 (lv_at hl 0 rfl) ?_
                    refine fw_ro (r := .int (iZ (saM N t u))) (va_runV (As := [.int (iZ ((t : Int))), .int (iZ u)]) (rest := []) ⟨hx, hb, hml, hown, hts⟩ (c_Mo_secAt l g w b ad N tb t u hM0 hI0 (by omega) ⟨by omega, by omega⟩) (cwV 2 hts (gdV k_Mo_sectionAt t_607 t_609 t_36 t_50) rfl rfl rfl (by decide +kernel) ⟨Nat.le_of_ble_eq_true rfl, Nat.le_of_ble_eq_true rfl⟩) ⟨roP_blind, fw_recv hK hF.1 hmo rfl, roP_pre hK hF.1⟩ rfl rfl hl.1 rfl (lv_room (Nat.le_of_ble_eq_true rfl)) d_Mo_section_79 ⟨by decide, by decide⟩) ?_
                    have hsr := saM_rng N t u r6t (by omega)
                    refine zz_if_lt (tgt := 87) hx hb d_Mo_section_82 (by decide) ⟨by omega, by omega⟩ (fun c82 => ?_) (fun c82 => ?_)
                    · refine lv_iinc (v := iZ (u + 1)) (lv' := [(5, .int (iZ (u + 1))), (0, .ref b), (1, .int (iZ ((t : Int)))), (2, .int (iZ o1)), (3, .int (iZ x1)), (4, .int (iZ y1))]) hx hb d_Mo_section_87 hl (k := 0) rfl (iZ_add _ _) (by decide) rfl (fun ls hl => ?_)
                      refine lv_goto (tgt := 66) hx hb d_Mo_section_90 (by decide) ?_
                      exact ih (i + 1) (u + 1) (by omega) (by rw [hv, sxF, if_neg (by omega)]) (by omega) ls (lv_sub hl [0, 1, 2, 3, 4, 5] rfl)
                    · refine lv_iconst (v := iZ (-1)) hx hb d_Mo_section_85 rfl ?_
                      exact rw_iret hx hb hr hlocks d_Mo_section_86 (by omega) (by omega) hF ⟨congrArg iZ ((by rw [sxR, if_neg nz1, Int.toNat_natCast, if_neg (by omega), if_pos (by rw [hv, sxF, if_pos (by omega)])] : sxR N (t : Int) o1 x1 y1 = -1)).symm, (by rw [sxM, if_neg (by rw [(by rw [sxR, if_neg nz1, Int.toNat_natCast, if_neg (by omega), if_pos (by rw [hv, sxF, if_pos (by omega)])] : sxR N (t : Int) o1 x1 y1 = -1)]; decide)]; exact hM0), fun q _ => rfl⟩
              exact lp y1.toNat 0 x1 (by omega) rfl (by omega) ls (lv_sub hl [0, 1, 2, 3, 4, 5] rfl)
            · refine lv_iconst (v := iZ (-1)) hx hb d_Mo_section_61 rfl ?_
              exact rw_iret hx hb hr hlocks d_Mo_section_62 (by omega) (by omega) hF ⟨congrArg iZ ((by rw [sxR, if_neg nz1, Int.toNat_natCast, if_pos c58] : sxR N (t : Int) o1 x1 y1 = -1)).symm, (by rw [sxM, if_neg (by rw [(by rw [sxR, if_neg nz1, Int.toNat_natCast, if_pos c58] : sxR N (t : Int) o1 x1 y1 = -1)]; decide)]; exact hM0), fun q _ => rfl⟩
