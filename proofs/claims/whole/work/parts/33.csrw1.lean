set_option maxHeartbeats 4000000 in
set_option maxRecDepth 100000 in
theorem c_Cs_start (l : Launch) (g : GG) (w : fw) (sz : Nat) (a : Nat) (A : ADT) (M : CsM) (O : Nat → Prop) (tb : Int) (hC : CsP g w a A M) (hI : CsI M tb) (hO : CsO O a A M) : RWi l y_Cs_start w_Cs_start ({ frames := 1, cells := 0, slots := 0, locals := 20 }) g w sz [.ref a] 0 0 ((fun rr1 w1 => rr1 = iZ (srR M) ∧ CsP g w1 a A (srM M) ∧ ∀ q, ¬ O q → w1 q = w q)) := by
  refine rw_go (by decide) rfl (Nat.le_of_ble_eq_true rfl) ?_
  intro p e s m below meth c hx hb hr hml hown hts hlocks hin hsz hK hT hA hF ls hl
  subst hsz
  have hown : s.vm.findClass rCs = some m.cls := hown
  have hl : lv_has ls 1 [(0, .ref a)] := hl
  have hI0 := hI
  have hc0 := hC.c0
  have htl := hC.tl
  have hca := hC.ca
  have hhi := hC.hi
  have hha := hC.ha
  obtain ⟨itb, in6, iti, ilr, iln, ice, itk⟩ := hI
  refine lv_aload_n hx hb d_Cs_start_0 rfl (lv_at hl 0 rfl) ?_
  refine fw_get (ci := 4) (v := .int (bZ (mSt M))) (C := rCs) (T := fCs) (N := 4) hx hb hts iCs hown hK hF.1 hc0 rfl 3 (by decide) (hts _ t_127) (fun _ h9 => h9) rfl d_Cs_start_1 ?_
  refine zb_if_ne (tgt := 17) hx hb d_Cs_start_4 (by decide) (fun c4 => ?_) (fun c4 => ?_)
  · refine lv_iconst (v := iZ (-1)) hx hb d_Cs_start_17 rfl ?_
    exact rw_iret hx hb hr hlocks d_Cs_start_18 (by omega) (by omega) hF ⟨congrArg iZ ((by rw [srR, if_pos (Or.inl c4)] : srR M = -1)).symm, (by rw [srM, if_neg (by rw [(by rw [srR, if_pos (Or.inl c4)] : srR M = -1)]; decide)]; exact hC), fun q _ => rfl⟩
  · refine lv_aload_n hx hb d_Cs_start_7 rfl (lv_at hl 0 rfl) ?_
    refine fw_get (ci := 4) (v := .ref (aTl A)) (C := rCs) (T := fCs) (N := 4) hx hb hts iCs hown hK hF.1 hc0 rfl 0 (by decide) (hts _ t_124) (fun _ h9 => h9) rfl d_Cs_start_8 ?_
    refine fw_ro (r := .int (bZ (decide ((mN M : Int) = 0)))) (va_runV (As := []) (rest := []) ⟨hx, hb, hml, hown, hts⟩ (c_AL_isEmpty l g w (aTl A) (aTe A) (aMo A) ((mN M : Int)) htl ⟨by omega, by omega⟩) (cwV 0 hts (gdV k_AL_isEmpty t_348 t_349 t_350 t_48) rfl rfl rfl (by decide +kernel) ⟨Nat.le_of_ble_eq_true rfl, Nat.le_of_ble_eq_true rfl⟩) ⟨roP_blind, fw_recv hK hF.1 htl rfl, roP_pre hK hF.1⟩ rfl rfl hl.1 rfl (lv_room (Nat.le_of_ble_eq_true rfl)) d_Cs_start_11 ⟨by decide, by decide⟩) ?_
    refine zb_if_eq (tgt := 19) hx hb d_Cs_start_14 (by decide) (fun c14 => ?_) (fun c14 => ?_)
    · have nz : ¬ (mSt M = true ∨ (mN M : Int) = 0) := fun q => q.elim (fun z => by rw [c4] at z; cases z) (fun z => of_decide_eq_false c14 z)
      refine lv_aload_n hx hb d_Cs_start_19 rfl (lv_at hl 0 rfl) ?_
      refine lv_iconst (v := iZ 1) hx hb d_Cs_start_20 rfl ?_
      refine fw_put (ci := 4) (v := .int (bZ true)) (ty := .boolean) (C := rCs) (T := fCs) (N := 4) hx hb hts iCs yCs_t yCs_ok yCs_nm hown hK hF hc0 rfl 3 (by decide) (hts _ t_127) (fun _ h9 => h9) rfl (by decide +kernel) (bZ_nar _) (bZ_fit _) (Nat.le_of_ble_eq_true rfl) d_Cs_start_21 (fun H locs hF => ?_)
      obtain ⟨w1, ew1⟩ : ∃ zw : fw, zw = fU w a (.inr (4, [.ref (aTl A), .ref (aCa A), .ref (aHi A), .int (bZ true)])) := ⟨_, rfl⟩
      have hF := fW_to ew1 hF
      have h2 : w1 a = some (.inr (4, [.ref (aTl A), .ref (aCa A), .ref (aHi A), .int (bZ true)])) := by rw [ew1]; exact fU_s _ _ _
      have h3 : w1 (aTl A) = some (.inr (6, [.int (iZ (aMo A)), .ref (aTe A), .int (iZ ((mN M : Int)))])) := by rw [ew1]; exact fU_k (fw_ne htl hc0 (ne_rr (by decide))) htl
      have h4 : w1 (aCa A) = some (aZ g.2.1 4 (mCe M)) := by rw [ew1]; exact fU_k (fw_ne hca hc0 ne_lr) hca
      have h5 : w1 (aHi A) = some (.inr (0, [.ref (aHa A), .int (iZ (hTi (mHi M))), .int (iZ (hId (mHi M))), .int (iZ (hSw (mHi M))), .int (iZ (hLr (mHi M))), .int (iZ (hLn (mHi M)))])) := by rw [ew1]; exact fU_k (fw_ne hhi hc0 (ne_rr (by decide))) hhi
      have h6 : w1 (aHa A) = some (aZ g.2.1 64 (hOf (mHi M))) := by rw [ew1]; exact fU_k (fw_ne hha hc0 ne_lr) hha
      refine lv_iconst (v := iZ 0) hx hb d_Cs_start_24 rfl ?_
      exact rw_iret hx hb hr hlocks d_Cs_start_25 (by omega) (by omega) hF ⟨congrArg iZ (by rw [srR, if_neg nz]), (by rw [srM, if_pos (by rw [srR, if_neg nz])]; exact hC.updS h2 (fun q x0 => by rw [ew1, fU_n x0])), fun q hq => by rw [ew1, fU_n (own_ne hq hO.1)]⟩
    · refine lv_iconst (v := iZ (-1)) hx hb d_Cs_start_17 rfl ?_
      exact rw_iret hx hb hr hlocks d_Cs_start_18 (by omega) (by omega) hF ⟨congrArg iZ ((by rw [srR, if_pos (Or.inr (of_decide_eq_true c14))] : srR M = -1)).symm, (by rw [srM, if_neg (by rw [(by rw [srR, if_pos (Or.inr (of_decide_eq_true c14))] : srR M = -1)]; decide)]; exact hC), fun q _ => rfl⟩

set_option maxHeartbeats 4000000 in
set_option maxRecDepth 100000 in
theorem c_Cs_ceiling (l : Launch) (g : GG) (w : fw) (sz : Nat) (a : Nat) (A : ADT) (M : CsM) (O : Nat → Prop) (tb : Int) (o c1 : Int) (hC : CsP g w a A M) (hI : CsI M tb) (hO : CsO O a A M) (hr_0 : ir o) (hr_1 : ir c1) : RWi l y_Cs_ceiling w_Cs_ceiling ({ frames := 5, cells := 0, slots := 0, locals := 110 }) g w sz [.ref a, .int (iZ o), .int (iZ c1)] 0 0 ((fun rr1 w1 => rr1 = iZ (ceR M o c1) ∧ CsP g w1 a A (ceM M o c1) ∧ ∀ q, ¬ O q → w1 q = w q)) := by
  refine rw_go (by decide) rfl (Nat.le_of_ble_eq_true rfl) ?_
  intro p e s m below meth c hx hb hr hml hown hts hlocks hin hsz hK hT hA hF ls hl
  subst hsz
  have hown : s.vm.findClass rCs = some m.cls := hown
  have hl : lv_has ls 3 [(0, .ref a), (1, .int (iZ o)), (2, .int (iZ c1))] := hl
  have hI0 := hI
  have hc0 := hC.c0
  have htl := hC.tl
  have hca := hC.ca
  have hhi := hC.hi
  have hha := hC.ha
  obtain ⟨itb, in6, iti, ilr, iln, ice, itk⟩ := hI
  obtain ⟨hr_0a, hr_0b⟩ := hr_0
  obtain ⟨hr_1a, hr_1b⟩ := hr_1
  refine lv_aload_n hx hb d_Cs_ceiling_0 rfl (lv_at hl 0 rfl) ?_
  refine fw_get (ci := 4) (v := .int (bZ (mSt M))) (C := rCs) (T := fCs) (N := 4) hx hb hts iCs hown hK hF.1 hc0 rfl 3 (by decide) (hts _ t_127) (fun _ h9 => h9) rfl d_Cs_ceiling_1 ?_
  refine zb_if_ne (tgt := 33) hx hb d_Cs_ceiling_4 (by decide) (fun c4 => ?_) (fun c4 => ?_)
  · refine lv_iconst (v := iZ (-1)) hx hb d_Cs_ceiling_33 rfl ?_
    exact rw_iret hx hb hr hlocks d_Cs_ceiling_34 (by omega) (by omega) hF ⟨congrArg iZ ((by rw [ceR, if_pos (Or.inl c4)] : ceR M o c1 = -1)).symm, (by rw [ceM, if_neg (by rw [(by rw [ceR, if_pos (Or.inl c4)] : ceR M o c1 = -1)]; decide)]; exact hC), fun q _ => rfl⟩
  · refine lv_iload_n hx hb d_Cs_ceiling_7 rfl (lv_at hl 1 rfl) ?_
    refine fw_ro (r := .int (bZ (decide (o < 0 ∨ 3 < o)))) (va_runS (As := [.int (iZ o)]) (rest := []) ⟨hx, hb, hml, hown, hts⟩ (c_Cs_noObj l g w o ⟨by omega, by omega⟩) (va_cwS 1 hts (gdS k_Cs_isNoObject t_282 t_283 t_45) rfl rfl rfl (by decide +kernel) ⟨Nat.le_of_ble_eq_true rfl, Nat.le_of_ble_eq_true rfl⟩) ⟨roP_blind, roP_pre hK hF.1⟩ rfl rfl hl.1 rfl (lv_room (Nat.le_of_ble_eq_true rfl)) d_Cs_ceiling_8 ⟨by decide, by decide⟩) ?_
    refine zb_if_ne (tgt := 33) hx hb d_Cs_ceiling_11 (by decide) (fun c11 => ?_) (fun c11 => ?_)
    · refine lv_iconst (v := iZ (-1)) hx hb d_Cs_ceiling_33 rfl ?_
      exact rw_iret hx hb hr hlocks d_Cs_ceiling_34 (by omega) (by omega) hF ⟨congrArg iZ ((by rw [ceR, if_pos (Or.inr (Or.inl (of_decide_eq_true c11)))] : ceR M o c1 = -1)).symm, (by rw [ceM, if_neg (by rw [(by rw [ceR, if_pos (Or.inr (Or.inl (of_decide_eq_true c11)))] : ceR M o c1 = -1)]; decide)]; exact hC), fun q _ => rfl⟩
    · refine lv_iload_n hx hb d_Cs_ceiling_14 rfl (lv_at hl 2 rfl) ?_
      refine lv_iconst (v := iZ 1) hx hb d_Cs_ceiling_15 rfl ?_
      refine lv_bipush (v := iZ 10) hx hb d_Cs_ceiling_16 (by decide) ?_
      refine fw_ro (r := .int (bZ (decide (c1 < 1 ∨ 10 < c1)))) (va_runS (As := [.int (iZ c1), .int (iZ 1), .int (iZ 10)]) (rest := []) ⟨hx, hb, hml, hown, hts⟩ (c_Cs_outside l g w c1 1 10 ⟨by omega, by omega⟩ ⟨by omega, by omega⟩ ⟨by omega, by omega⟩) (va_cwS 3 hts (gdS k_Cs_isOutside t_141 t_142 t_45) rfl rfl rfl (by decide +kernel) ⟨Nat.le_of_ble_eq_true rfl, Nat.le_of_ble_eq_true rfl⟩) ⟨roP_blind, roP_pre hK hF.1⟩ rfl rfl hl.1 rfl (lv_room (Nat.le_of_ble_eq_true rfl)) d_Cs_ceiling_18 ⟨by decide, by decide⟩) ?_
      refine zb_if_ne (tgt := 33) hx hb d_Cs_ceiling_21 (by decide) (fun c21 => ?_) (fun c21 => ?_)
      · refine lv_iconst (v := iZ (-1)) hx hb d_Cs_ceiling_33 rfl ?_
        exact rw_iret hx hb hr hlocks d_Cs_ceiling_34 (by omega) (by omega) hF ⟨congrArg iZ ((by rw [ceR, if_pos (Or.inr (Or.inr (Or.inl (of_decide_eq_true c21))))] : ceR M o c1 = -1)).symm, (by rw [ceM, if_neg (by rw [(by rw [ceR, if_pos (Or.inr (Or.inr (Or.inl (of_decide_eq_true c21))))] : ceR M o c1 = -1)]; decide)]; exact hC), fun q _ => rfl⟩
      · refine lv_aload_n hx hb d_Cs_ceiling_24 rfl (lv_at hl 0 rfl) ?_
        refine lv_iload_n hx hb d_Cs_ceiling_25 rfl (lv_at hl 1 rfl) ?_
        refine fw_ro (r := .int (iZ (gpM M o))) (va_runV (As := [.int (iZ o)]) (rest := []) ⟨hx, hb, hml, hown, hts⟩ (c_Cs_great l g w a A M tb o hC hI0 ⟨by omega, by omega⟩) (cwV 1 hts (gdV k_Cs_greatestPriorityOn t_285 t_287 t_3 t_45) rfl rfl rfl (by decide +kernel) ⟨Nat.le_of_ble_eq_true rfl, Nat.le_of_ble_eq_true rfl⟩) ⟨roP_blind, fw_recv hK hF.1 hc0 rfl, roP_pre hK hF.1⟩ rfl rfl hl.1 rfl (lv_room (Nat.le_of_ble_eq_true rfl)) d_Cs_ceiling_26 ⟨by decide, by decide⟩) ?_
        have hgp : 0 ≤ gpM M o ∧ gpM M o ≤ 10 := gpF_rng M o (mN M) 0 0 (fun j hj => (itk j (by omega)).2.2.2.1) (by omega)
        refine lv_iload_n hx hb d_Cs_ceiling_29 rfl (lv_at hl 2 rfl) ?_
        refine zz_icmp_le (tgt := 35) hx hb d_Cs_ceiling_30 (by decide) ⟨by omega, by omega⟩ ⟨by omega, by omega⟩ (fun c30 => ?_) (fun c30 => ?_)
        · have n11 := of_decide_eq_false c11
          have n21 := of_decide_eq_false c21
          have nz : ¬ (mSt M = true ∨ (o < 0 ∨ 3 < o) ∨ (c1 < 1 ∨ 10 < c1) ∨ c1 < gpM M o) := fun q => q.elim (fun z => by rw [c4] at z; cases z) (fun z => z.elim n11 (fun z => z.elim n21 (fun z => by omega)))
          refine lv_aload_n hx hb d_Cs_ceiling_35 rfl (lv_at hl 0 rfl) ?_
          refine fw_get (ci := 4) (v := .ref (aCa A)) (C := rCs) (T := fCs) (N := 4) hx hb hts iCs hown hK hF.1 hc0 rfl 1 (by decide) (hts _ t_125) (fun _ h9 => h9) rfl d_Cs_ceiling_36 ?_
          refine lv_iload_n hx hb d_Cs_ceiling_39 rfl (lv_at hl 1 rfl) ?_
          refine lv_iload_n hx hb d_Cs_ceiling_40 rfl (lv_at hl 2 rfl) ?_
          refine fw_iast (x := c1) hx hb hK hF hca (by decide) o.toNat (by omega) (by omega) d_Cs_ceiling_41 (fun H locs hF => ?_)
          obtain ⟨w1, ew1⟩ : ∃ zw : fw, zw = fU w (aCa A) (aZ g.2.1 4 (va_up (mCe M) o.toNat c1)) := ⟨_, rfl⟩
          have hF := fW_to ew1 hF
          have h2 : w1 a = some (.inr (4, [.ref (aTl A), .ref (aCa A), .ref (aHi A), .int (bZ (mSt M))])) := by rw [ew1]; exact fU_k (fw_ne hc0 hca ne_rl) hc0
          have h3 : w1 (aTl A) = some (.inr (6, [.int (iZ (aMo A)), .ref (aTe A), .int (iZ ((mN M : Int)))])) := by rw [ew1]; exact fU_k (fw_ne htl hca ne_rl) htl
          have h4 : w1 (aCa A) = some (aZ g.2.1 4 (va_up (mCe M) o.toNat c1)) := by rw [ew1]; exact fU_s _ _ _
          have h5 : w1 (aHi A) = some (.inr (0, [.ref (aHa A), .int (iZ (hTi (mHi M))), .int (iZ (hId (mHi M))), .int (iZ (hSw (mHi M))), .int (iZ (hLr (mHi M))), .int (iZ (hLn (mHi M)))])) := by rw [ew1]; exact fU_k (fw_ne hhi hca ne_rl) hhi
          have h6 : w1 (aHa A) = some (aZ g.2.1 64 (hOf (mHi M))) := by rw [ew1]; exact fU_k (fw_ne hha hca (ne_ll (by decide))) hha
          refine lv_iconst (v := iZ 0) hx hb d_Cs_ceiling_42 rfl ?_
          exact rw_iret hx hb hr hlocks d_Cs_ceiling_43 (by omega) (by omega) hF ⟨congrArg iZ (by rw [ceR, if_neg nz]), (by rw [ceM, if_pos (by rw [ceR, if_neg nz])]; exact hC.updC h4 (fun q x0 => by rw [ew1, fU_n x0])), fun q hq => by rw [ew1, fU_n (own_ne hq hO.2.2.1)]⟩
        · refine lv_iconst (v := iZ (-1)) hx hb d_Cs_ceiling_33 rfl ?_
          exact rw_iret hx hb hr hlocks d_Cs_ceiling_34 (by omega) (by omega) hF ⟨congrArg iZ ((by rw [ceR, if_pos (Or.inr (Or.inr (Or.inr c30)))] : ceR M o c1 = -1)).symm, (by rw [ceM, if_neg (by rw [(by rw [ceR, if_pos (Or.inr (Or.inr (Or.inr c30)))] : ceR M o c1 = -1)]; decide)]; exact hC), fun q _ => rfl⟩

set_option maxHeartbeats 4000000 in
set_option maxRecDepth 100000 in
theorem c_Cs_event (l : Launch) (g : GG) (w : fw) (sz : Nat) (a : Nat) (A : ADT) (M : CsM) (O : Nat → Prop) (tb : Int) (v : Int) (hC : CsP g w a A M) (hI : CsI M tb) (hO : CsO O a A M) (hr_0 : ir v) : RWi l y_Cs_event w_Cs_event ({ frames := 3, cells := 0, slots := 0, locals := 64 }) g w sz [.ref a, .int (iZ v)] 0 0 ((fun rr1 w1 => rr1 = iZ (evR M v) ∧ CsP g w1 a A (evM M v) ∧ ∀ q, ¬ O q → w1 q = w q)) := by
  refine rw_go (by decide) rfl (Nat.le_of_ble_eq_true rfl) ?_
  intro p e s m below meth c hx hb hr hml hown hts hlocks hin hsz hK hT hA hF ls hl
  subst hsz
  have hown : s.vm.findClass rCs = some m.cls := hown
  have hl : lv_has ls 3 [(0, .ref a), (1, .int (iZ v))] := hl
  have hI0 := hI
  have hc0 := hC.c0
  have htl := hC.tl
  have hca := hC.ca
  have hhi := hC.hi
  have hha := hC.ha
  obtain ⟨itb, in6, iti, ilr, iln, ice, itk⟩ := hI
  obtain ⟨hr_0a, hr_0b⟩ := hr_0
  refine lv_aload_n hx hb d_Cs_event_0 rfl (lv_at hl 0 rfl) ?_
  refine fw_get (ci := 4) (v := .int (bZ (mSt M))) (C := rCs) (T := fCs) (N := 4) hx hb hts iCs hown hK hF.1 hc0 rfl 3 (by decide) (hts _ t_127) (fun _ h9 => h9) rfl d_Cs_event_1 ?_
  refine zb_if_eq (tgt := 15) hx hb d_Cs_event_4 (by decide) (fun c4 => ?_) (fun c4 => ?_)
  · refine lv_iconst (v := iZ (-1)) hx hb d_Cs_event_15 rfl ?_
    exact rw_iret hx hb hr hlocks d_Cs_event_16 (by omega) (by omega) hF ⟨congrArg iZ ((by rw [evR, if_pos (Or.inl c4)] : evR M v = -1)).symm, (by rw [evM, if_neg (by rw [(by rw [evR, if_pos (Or.inl c4)] : evR M v = -1)]; decide)]; exact hC), fun q _ => rfl⟩
  · refine lv_aload_n hx hb d_Cs_event_7 rfl (lv_at hl 0 rfl) ?_
    refine lv_iload_n hx hb d_Cs_event_8 rfl (lv_at hl 1 rfl) ?_
    refine fw_ro (r := .int (bZ (decide (v < 0 ∨ (mN M : Int) - 1 < v)))) (va_runV (As := [.int (iZ v)]) (rest := []) ⟨hx, hb, hml, hown, hts⟩ (c_Cs_noTask l g w a A M tb v hC hI0 ⟨by omega, by omega⟩) (cwV 1 hts (gdV k_Cs_isNoTask t_315 t_317 t_5 t_45) rfl rfl rfl (by decide +kernel) ⟨Nat.le_of_ble_eq_true rfl, Nat.le_of_ble_eq_true rfl⟩) ⟨roP_blind, fw_recv hK hF.1 hc0 rfl, roP_pre hK hF.1⟩ rfl rfl hl.1 rfl (lv_room (Nat.le_of_ble_eq_true rfl)) d_Cs_event_9 ⟨by decide, by decide⟩) ?_
    refine zb_if_eq (tgt := 17) hx hb d_Cs_event_12 (by decide) (fun c12 => ?_) (fun c12 => ?_)
    · have n12 := of_decide_eq_false c12
      obtain ⟨t, et⟩ := Int.eq_ofNat_of_zero_le (show 0 ≤ v by omega)
      subst et
      have htn : t < mN M := by omega
      have nz1 : ¬ (mSt M = false ∨ ((t : Int) < 0 ∨ (mN M : Int) - 1 < (t : Int))) := fun q => q.elim (fun z => by rw [c4] at z; cases z) n12
      refine lv_aload_n hx hb d_Cs_event_17 rfl (lv_at hl 0 rfl) ?_
      refine fw_get (ci := 4) (v := .ref (aTl A)) (C := rCs) (T := fCs) (N := 4) hx hb hts iCs hown hK hF.1 hc0 rfl 0 (by decide) (hts _ t_124) (fun _ h9 => h9) rfl d_Cs_event_18 ?_
      refine lv_iload_n hx hb d_Cs_event_21 rfl (lv_at hl 1 rfl) ?_
      refine fw_ro (r := .ref (aTk A t)) (va_runV (As := [.int (iZ ((t : Int)))]) (rest := []) ⟨hx, hb, hml, hown, hts⟩ (c_AL_get l g w (aTl A) (aTe A) (aMo A) (mN M) (aQf A) t (aTk A t) htl (hC.te (by omega)) (by omega) (by omega) (hC.qf t (by omega))) (cwV 1 hts (gdV k_AL_get t_289 t_290 t_291 t_48) rfl rfl rfl (by decide +kernel) ⟨Nat.le_of_ble_eq_true rfl, Nat.le_of_ble_eq_true rfl⟩) ⟨roP_blind, fw_recv hK hF.1 htl rfl, roP_pre hK hF.1⟩ rfl rfl hl.1 rfl (lv_room (Nat.le_of_ble_eq_true rfl)) d_Cs_event_22 ⟨by decide, by decide⟩) ?_
      obtain ⟨ktt, kslt, ks0t, kset, kqft, ksat, kjqt, krat⟩ := hC.tk t (by omega)
      obtain ⟨rpert, rcstt, rddlt, rprit, rnst, rSt, rnxt, rfrt, rndt, ruft, rrlt, rlrt, rgrt, rret, rlxt⟩ := itk t (by omega)
      refine fw_cast (T := fTa) (N := 8) hx hb hown (hts _ t_148) hK hF.1 ktt rfl d_Cs_event_25 ?_
      refine lv_astore_n (lv' := [(2, .ref (aTk A t)), (0, .ref a), (1, .int (iZ ((t : Int))))]) hx hb d_Cs_event_28 rfl hl (by decide) rfl (fun ls hl => ?_)
      refine lv_aload_n hx hb d_Cs_event_29 rfl (lv_at hl 0 rfl) ?_
      refine fw_getN (ci := 3) (v := .int (bZ (sSpo (mTs M t)))) (C := rTa) (T := fTa) (N := 8) (index := 86) (ref := "CeilingScheduler$Task") (host := "CeilingScheduler") hx hb hts iTa hown hK hF.1 ktt rfl 4 (by decide) n_201 (fun _ h9 => h9) rfl d_Cs_event_30 ?_
      refine zb_if_eq (tgt := 57) hx hb d_Cs_event_33 (by decide) (fun c33 => ?_) (fun c33 => ?_)
      · refine lv_iconst (v := iZ (-1)) hx hb d_Cs_event_57 rfl ?_
        exact rw_iret hx hb hr hlocks d_Cs_event_58 (by omega) (by omega) hF ⟨congrArg iZ ((by rw [evR, if_neg nz1, Int.toNat_natCast, if_pos (Or.inl c33)] : evR M (t : Int) = -1)).symm, (by rw [evM, if_neg (by rw [(by rw [evR, if_neg nz1, Int.toNat_natCast, if_pos (Or.inl c33)] : evR M (t : Int) = -1)]; decide)]; exact hC), fun q _ => rfl⟩
      · refine lv_aload_n hx hb d_Cs_event_36 rfl (lv_at hl 0 rfl) ?_
        refine fw_getN (ci := 3) (v := .ref (aJq A t)) (C := rTa) (T := fTa) (N := 8) (index := 89) (ref := "CeilingScheduler$Task") (host := "CeilingScheduler") hx hb hts iTa hown hK hF.1 ktt rfl 6 (by decide) n_205 (fun _ h9 => h9) rfl d_Cs_event_37 ?_
        refine lv_aload_n hx hb d_Cs_event_40 rfl (lv_at hl 0 rfl) ?_
        refine fw_getN (ci := 3) (v := .int (iZ (sPer (mTs M t)))) (C := rTa) (T := fTa) (N := 8) (index := 93) (ref := "CeilingScheduler$Task") (host := "CeilingScheduler") hx hb hts iTa hown hK hF.1 ktt rfl 0 (by decide) n_193 (fun _ h9 => h9) rfl d_Cs_event_41 ?_
        refine lv_aload_n hx hb d_Cs_event_44 rfl (lv_at hl 1 rfl) ?_
        refine fw_get (ci := 4) (v := .ref (aHi A)) (C := rCs) (T := fCs) (N := 4) hx hb hts iCs hown hK hF.1 hc0 rfl 2 (by decide) (hts _ t_126) (fun _ h9 => h9) rfl d_Cs_event_45 ?_
        refine fw_getN (ci := 0) (v := .int (iZ (hTi (mHi M)))) (C := rHi) (T := fHi) (N := 6) (index := 96) (ref := "CeilingScheduler$History") (host := "CeilingScheduler") hx hb hts iHi hown hK hF.1 hhi rfl 1 (by decide) n_102 (fun _ h9 => h9) rfl d_Cs_event_48 ?_
        refine fw_ro (r := .int (bZ (decide (0 < dRl (mTd M t) ∧ (hTi (mHi M)) - dLr (mTd M t) < (sPer (mTs M t)))))) (va_runVN (As := [.int (iZ (sPer (mTs M t))), .int (iZ (hTi (mHi M)))]) (rest := []) ⟨hx, hb, hml, hown, hts⟩ (c_Jq_within l g w (aJq A t) (aRa A t) (dFr (mTd M t)) (dNd (mTd M t)) (dUf (mTd M t)) (dRl (mTd M t)) (dLr (mTd M t)) (dDl (mTd M t)) (dGr (mTd M t)) (sPer (mTs M t)) (hTi (mHi M)) kjqt ⟨by omega, by omega⟩ ⟨by omega, by omega⟩ ⟨by omega, by omega⟩) ⟨va_cnB 2 hts (gdT k_Jq_hasReleaseWithin) rfl rfl rfl (hK.2.1 _ n_356) (hts _ t_52) (by decide +kernel) ⟨Nat.le_of_ble_eq_true rfl, Nat.le_of_ble_eq_true rfl⟩, hts _ t_358, hts _ t_7⟩ ⟨roP_blind, fw_recv hK hF.1 kjqt rfl, roP_pre hK hF.1⟩ rfl rfl hl.1 rfl (lv_room (Nat.le_of_ble_eq_true rfl)) d_Cs_event_51 ⟨by decide, by decide⟩) ?_
        refine zb_if_eq (tgt := 59) hx hb d_Cs_event_54 (by decide) (fun c54 => ?_) (fun c54 => ?_)
        · have nz2 : ¬ (sSpo (mTs M t) = false ∨ (0 < dRl (mTd M t) ∧ hTi (mHi M) - dLr (mTd M t) < sPer (mTs M t))) := fun q => q.elim (fun z => by rw [c33] at z; cases z) (of_decide_eq_false c54)
          refine lv_aload_n hx hb d_Cs_event_59 rfl (lv_at hl 0 rfl) ?_
          refine fw_getN (ci := 3) (v := .ref (aJq A t)) (C := rTa) (T := fTa) (N := 8) (index := 89) (ref := "CeilingScheduler$Task") (host := "CeilingScheduler") hx hb hts iTa hown hK hF.1 ktt rfl 6 (by decide) n_205 (fun _ h9 => h9) rfl d_Cs_event_60 ?_
          refine fw_ro (r := .int (bZ (decide (8 ≤ dNd (mTd M t))))) (va_runVN (As := []) (rest := []) ⟨hx, hb, hml, hown, hts⟩ (c_Jq_isFull l g w (aJq A t) (aRa A t) (dFr (mTd M t)) (dNd (mTd M t)) (dUf (mTd M t)) (dRl (mTd M t)) (dLr (mTd M t)) (dDl (mTd M t)) (dGr (mTd M t)) kjqt ⟨by omega, by omega⟩) ⟨va_cnB 0 hts (gdT k_Jq_isFull) rfl rfl rfl (hK.2.1 _ n_360) (hts _ t_52) (by decide +kernel) ⟨Nat.le_of_ble_eq_true rfl, Nat.le_of_ble_eq_true rfl⟩, hts _ t_362, hts _ t_8⟩ ⟨roP_blind, fw_recv hK hF.1 kjqt rfl, roP_pre hK hF.1⟩ rfl rfl hl.1 rfl (lv_room (Nat.le_of_ble_eq_true rfl)) d_Cs_event_63 ⟨by decide, by decide⟩) ?_
          refine zb_if_eq (tgt := 72) hx hb d_Cs_event_66 (by decide) (fun c66 => ?_) (fun c66 => ?_)
          · have e0 : evR M (t : Int) = 0 := by rw [evR, if_neg nz1, Int.toNat_natCast, if_neg nz2, if_neg (of_decide_eq_false c66)]
            refine lv_aload_n hx hb d_Cs_event_72 rfl (lv_at hl 0 rfl) ?_
            refine fw_getN (ci := 3) (v := .ref (aJq A t)) (C := rTa) (T := fTa) (N := 8) (index := 89) (ref := "CeilingScheduler$Task") (host := "CeilingScheduler") hx hb hts iTa hown hK hF.1 ktt rfl 6 (by decide) n_205 (fun _ h9 => h9) rfl d_Cs_event_73 ?_
            refine lv_aload_n hx hb d_Cs_event_76 rfl (lv_at hl 1 rfl) ?_
            refine fw_get (ci := 4) (v := .ref (aHi A)) (C := rCs) (T := fCs) (N := 4) hx hb hts iCs hown hK hF.1 hc0 rfl 2 (by decide) (hts _ t_126) (fun _ h9 => h9) rfl d_Cs_event_77 ?_
            refine fw_getN (ci := 0) (v := .int (iZ (hTi (mHi M)))) (C := rHi) (T := fHi) (N := 6) (index := 96) (ref := "CeilingScheduler$History") (host := "CeilingScheduler") hx hb hts iHi hown hK hF.1 hhi rfl 1 (by decide) n_102 (fun _ h9 => h9) rfl d_Cs_event_80 ?_
            refine fw_callv (va_runVN (As := [.int (iZ (hTi (mHi M)))]) (rest := []) ⟨hx, hb, hml, hown, hts⟩ (c_Jq_release l g w s.heap.size (aJq A t) (aRa A t) (dFr (mTd M t)) (dNd (mTd M t)) (dUf (mTd M t)) (dRl (mTd M t)) (dLr (mTd M t)) (dDl (mTd M t)) (dGr (mTd M t)) (dRel (mTd M t)) (hTi (mHi M)) kjqt krat rfrt rndt) ⟨va_cnB 1 hts (gdT k_Jq_release) rfl rfl rfl (hK.2.1 _ n_364) (hts _ t_52) (by decide +kernel) ⟨Nat.le_of_ble_eq_true rfl, Nat.le_of_ble_eq_true rfl⟩, hts _ t_366, hts _ t_9⟩ ⟨rwP_blind, fw_recv hK hF.1 kjqt rfl, rwP_pre hK hT hA hF⟩ rfl rfl hl.1 rfl (lv_room (Nat.le_of_ble_eq_true rfl)) d_Cs_event_83 ⟨by decide, by decide⟩) hF hA (fun w1 H locs hp2 hz hF => ?_)
            obtain ⟨k1, k2, k3⟩ := hp2
            have kT := (k3 (aTk A t) (fw_ne ktt kjqt (ne_rr (by decide))) (fw_ne ktt krat ne_rl)).trans ktt
            have hC1 := hC.updD htn (d := rlD (mTd M t) (dNxt (mTd M t)) (hTi (mHi M))) kT k1 k2 (fun q _ x2 x3 => k3 q x2 x3)
            refine lv_iconst (v := iZ 0) hx hb d_Cs_event_86 rfl ?_
            exact rw_iret hx hb hr hlocks d_Cs_event_87 (by omega) (by omega) hF ⟨congrArg iZ e0.symm, (by rw [evM, if_pos e0]; exact hC1), fun q hq => k3 q (own_ne hq (hO.2.2.2.2.2.2 t htn).2.2.1) (own_ne hq (hO.2.2.2.2.2.2 t htn).2.2.2.1)⟩
          · refine lv_bipush (v := iZ (-2)) hx hb d_Cs_event_69 (by decide) ?_
            exact rw_iret hx hb hr hlocks d_Cs_event_71 (by omega) (by omega) hF ⟨congrArg iZ ((by rw [evR, if_neg nz1, Int.toNat_natCast, if_neg nz2, if_pos (of_decide_eq_true c66)] : evR M (t : Int) = -2)).symm, (by rw [evM, if_neg (by rw [(by rw [evR, if_neg nz1, Int.toNat_natCast, if_neg nz2, if_pos (of_decide_eq_true c66)] : evR M (t : Int) = -2)]; decide)]; exact hC), fun q _ => rfl⟩
        · refine lv_iconst (v := iZ (-1)) hx hb d_Cs_event_57 rfl ?_
          exact rw_iret hx hb hr hlocks d_Cs_event_58 (by omega) (by omega) hF ⟨congrArg iZ ((by rw [evR, if_neg nz1, Int.toNat_natCast, if_pos (Or.inr (of_decide_eq_true c54))] : evR M (t : Int) = -1)).symm, (by rw [evM, if_neg (by rw [(by rw [evR, if_neg nz1, Int.toNat_natCast, if_pos (Or.inr (of_decide_eq_true c54))] : evR M (t : Int) = -1)]; decide)]; exact hC), fun q _ => rfl⟩
    · refine lv_iconst (v := iZ (-1)) hx hb d_Cs_event_15 rfl ?_
      exact rw_iret hx hb hr hlocks d_Cs_event_16 (by omega) (by omega) hF ⟨congrArg iZ ((by rw [evR, if_pos (Or.inr (of_decide_eq_true c12))] : evR M v = -1)).symm, (by rw [evM, if_neg (by rw [(by rw [evR, if_pos (Or.inr (of_decide_eq_true c12))] : evR M v = -1)]; decide)]; exact hC), fun q _ => rfl⟩
