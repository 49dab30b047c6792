set_option maxHeartbeats 4000000 in
set_option maxRecDepth 100000 in
theorem c_Cs_define (l : Launch) (g : GG) (w : fw) (sz : Nat) (a : Nat) (A : ADT) (M : CsM) (O : Nat → Prop) (tb : Int) (p1 c1 d1 r1 o1 : Int) (hC : CsP g w a A M) (hI : CsI M tb) (hO : CsO O a A M) (hr_0 : ir p1) (hr_1 : ir c1) (hr_2 : ir d1) (hr_3 : ir r1) (hr_4 : ir o1) : RWi l y_Cs_define w_Cs_define ({ frames := 5, cells := 5, slots := 37, locals := 102 }) g w sz [.ref a, .int (iZ p1), .int (iZ c1), .int (iZ d1), .int (iZ r1), .int (iZ o1)] 5 37 ((fun rr1 w1 => rr1 = iZ (dfR M p1 c1 d1 r1 o1) ∧ (∃ A1 : ADT, CsP g w1 a A1 (dfM M p1 c1 d1 r1 o1) ∧ CsO (fun y => O y ∨ w y = none) a A1 (dfM M p1 c1 d1 r1 o1)) ∧ ∀ q, ¬ O q → w q ≠ none → w1 q = w q)) := by
  refine rw_go (by decide) rfl (Nat.le_of_ble_eq_true rfl) ?_
  intro p e s m below meth c hx hb hr hml hown hts hlocks hin hsz hK hT hA hF ls hl
  subst hsz
  have hown : s.vm.findClass rCs = some m.cls := hown
  have hl : lv_has ls 6 [(0, .ref a), (1, .int (iZ p1)), (2, .int (iZ c1)), (3, .int (iZ d1)), (4, .int (iZ r1)), (5, .int (iZ o1))] := hl
  have hI0 := hI
  have hc0 := hC.c0
  have htl := hC.tl
  have hca := hC.ca
  have hhi := hC.hi
  have hha := hC.ha
  obtain ⟨itb, in6, iti, ilr, iln, ice, itk⟩ := hI
  obtain ⟨hr_0a, hr_0b⟩ := hr_0
  obtain ⟨hr_1a, hr_1b⟩ := hr_1
  obtain ⟨hr_2a, hr_2b⟩ := hr_2
  obtain ⟨hr_3a, hr_3b⟩ := hr_3
  obtain ⟨hr_4a, hr_4b⟩ := hr_4
  refine lv_aload_n hx hb d_Cs_define_0 rfl (lv_at hl 0 rfl) ?_
  refine fw_get (ci := 4) (v := .int (bZ (mSt M))) (C := rCs) (T := fCs) (N := 4) hx hb hts iCs hown hK hF.1 hc0 rfl 3 (by decide) (hts _ t_127) (fun _ h9 => h9) rfl d_Cs_define_1 ?_
  refine zb_if_ne (tgt := 57) hx hb d_Cs_define_4 (by decide) (fun c4 => ?_) (fun c4 => ?_)
  · refine lv_iconst (v := iZ (-1)) hx hb d_Cs_define_57 rfl ?_
    exact rw_iret hx hb hr hlocks d_Cs_define_58 (by omega) (by omega) hF ⟨congrArg iZ ((by rw [dfR, if_pos (Or.inl c4)] : dfR M p1 c1 d1 r1 o1 = -1)).symm, ⟨A, (by rw [dfM, if_neg (by rw [(by rw [dfR, if_pos (Or.inl c4)] : dfR M p1 c1 d1 r1 o1 = -1)]; decide)]; exact ⟨hC, hO.grow⟩)⟩, fun q _ _ => rfl⟩
  · refine lv_iload_n hx hb d_Cs_define_7 rfl (lv_at hl 1 rfl) ?_
    refine lv_iconst (v := iZ 2) hx hb d_Cs_define_8 rfl ?_
    refine lv_bipush (v := iZ 60) hx hb d_Cs_define_9 (by decide) ?_
    refine fw_ro (r := .int (bZ (decide (p1 < 2 ∨ 60 < p1)))) (va_runS (As := [.int (iZ p1), .int (iZ 2), .int (iZ 60)]) (rest := []) ⟨hx, hb, hml, hown, hts⟩ (c_Cs_outside l g w p1 2 60 ⟨by omega, by omega⟩ ⟨by omega, by omega⟩ ⟨by omega, by omega⟩) (va_cwS 3 hts (gdS k_Cs_isOutside t_141 t_142 t_45) rfl rfl rfl (by decide +kernel) ⟨Nat.le_of_ble_eq_true rfl, Nat.le_of_ble_eq_true rfl⟩) ⟨roP_blind, roP_pre hK hF.1⟩ rfl rfl hl.1 rfl (lv_room (Nat.le_of_ble_eq_true rfl)) d_Cs_define_11 ⟨by decide, by decide⟩) ?_
    refine zb_if_ne (tgt := 57) hx hb d_Cs_define_14 (by decide) (fun c14 => ?_) (fun c14 => ?_)
    · refine lv_iconst (v := iZ (-1)) hx hb d_Cs_define_57 rfl ?_
      exact rw_iret hx hb hr hlocks d_Cs_define_58 (by omega) (by omega) hF ⟨congrArg iZ ((by rw [dfR, if_pos (Or.inr (Or.inl (of_decide_eq_true c14)))] : dfR M p1 c1 d1 r1 o1 = -1)).symm, ⟨A, (by rw [dfM, if_neg (by rw [(by rw [dfR, if_pos (Or.inr (Or.inl (of_decide_eq_true c14)))] : dfR M p1 c1 d1 r1 o1 = -1)]; decide)]; exact ⟨hC, hO.grow⟩)⟩, fun q _ _ => rfl⟩
    · refine lv_iload_n hx hb d_Cs_define_17 rfl (lv_at hl 2 rfl) ?_
      refine lv_iconst (v := iZ 1) hx hb d_Cs_define_18 rfl ?_
      refine lv_iload_n hx hb d_Cs_define_19 rfl (lv_at hl 1 rfl) ?_
      refine fw_ro (r := .int (bZ (decide (c1 < 1 ∨ p1 < c1)))) (va_runS (As := [.int (iZ c1), .int (iZ 1), .int (iZ p1)]) (rest := []) ⟨hx, hb, hml, hown, hts⟩ (c_Cs_outside l g w c1 1 p1 ⟨by omega, by omega⟩ ⟨by omega, by omega⟩ ⟨by omega, by omega⟩) (va_cwS 3 hts (gdS k_Cs_isOutside t_141 t_142 t_45) rfl rfl rfl (by decide +kernel) ⟨Nat.le_of_ble_eq_true rfl, Nat.le_of_ble_eq_true rfl⟩) ⟨roP_blind, roP_pre hK hF.1⟩ rfl rfl hl.1 rfl (lv_room (Nat.le_of_ble_eq_true rfl)) d_Cs_define_20 ⟨by decide, by decide⟩) ?_
      refine zb_if_ne (tgt := 57) hx hb d_Cs_define_23 (by decide) (fun c23 => ?_) (fun c23 => ?_)
      · refine lv_iconst (v := iZ (-1)) hx hb d_Cs_define_57 rfl ?_
        exact rw_iret hx hb hr hlocks d_Cs_define_58 (by omega) (by omega) hF ⟨congrArg iZ ((by rw [dfR, if_pos (Or.inr (Or.inr (Or.inl (of_decide_eq_true c23))))] : dfR M p1 c1 d1 r1 o1 = -1)).symm, ⟨A, (by rw [dfM, if_neg (by rw [(by rw [dfR, if_pos (Or.inr (Or.inr (Or.inl (of_decide_eq_true c23))))] : dfR M p1 c1 d1 r1 o1 = -1)]; decide)]; exact ⟨hC, hO.grow⟩)⟩, fun q _ _ => rfl⟩
      · refine lv_iload_n hx hb d_Cs_define_26 rfl (lv_at hl 3 rfl) ?_
        refine lv_iconst (v := iZ 1) hx hb d_Cs_define_27 rfl ?_
        refine lv_iload_n hx hb d_Cs_define_28 rfl (lv_at hl 1 rfl) ?_
        refine fw_ro (r := .int (bZ (decide (d1 < 1 ∨ p1 < d1)))) (va_runS (As := [.int (iZ d1), .int (iZ 1), .int (iZ p1)]) (rest := []) ⟨hx, hb, hml, hown, hts⟩ (c_Cs_outside l g w d1 1 p1 ⟨by omega, by omega⟩ ⟨by omega, by omega⟩ ⟨by omega, by omega⟩) (va_cwS 3 hts (gdS k_Cs_isOutside t_141 t_142 t_45) rfl rfl rfl (by decide +kernel) ⟨Nat.le_of_ble_eq_true rfl, Nat.le_of_ble_eq_true rfl⟩) ⟨roP_blind, roP_pre hK hF.1⟩ rfl rfl hl.1 rfl (lv_room (Nat.le_of_ble_eq_true rfl)) d_Cs_define_29 ⟨by decide, by decide⟩) ?_
        refine zb_if_ne (tgt := 57) hx hb d_Cs_define_32 (by decide) (fun c32 => ?_) (fun c32 => ?_)
        · refine lv_iconst (v := iZ (-1)) hx hb d_Cs_define_57 rfl ?_
          exact rw_iret hx hb hr hlocks d_Cs_define_58 (by omega) (by omega) hF ⟨congrArg iZ ((by rw [dfR, if_pos (Or.inr (Or.inr (Or.inr (Or.inl (of_decide_eq_true c32)))))] : dfR M p1 c1 d1 r1 o1 = -1)).symm, ⟨A, (by rw [dfM, if_neg (by rw [(by rw [dfR, if_pos (Or.inr (Or.inr (Or.inr (Or.inl (of_decide_eq_true c32)))))] : dfR M p1 c1 d1 r1 o1 = -1)]; decide)]; exact ⟨hC, hO.grow⟩)⟩, fun q _ _ => rfl⟩
        · refine lv_iload hx hb d_Cs_define_35 (lv_at hl 4 rfl) ?_
          refine lv_iconst (v := iZ 1) hx hb d_Cs_define_37 rfl ?_
          refine lv_bipush (v := iZ 10) hx hb d_Cs_define_38 (by decide) ?_
          refine fw_ro (r := .int (bZ (decide (r1 < 1 ∨ 10 < r1)))) (va_runS (As := [.int (iZ r1), .int (iZ 1), .int (iZ 10)]) (rest := []) ⟨hx, hb, hml, hown, hts⟩ (c_Cs_outside l g w r1 1 10 ⟨by omega, by omega⟩ ⟨by omega, by omega⟩ ⟨by omega, by omega⟩) (va_cwS 3 hts (gdS k_Cs_isOutside t_141 t_142 t_45) rfl rfl rfl (by decide +kernel) ⟨Nat.le_of_ble_eq_true rfl, Nat.le_of_ble_eq_true rfl⟩) ⟨roP_blind, roP_pre hK hF.1⟩ rfl rfl hl.1 rfl (lv_room (Nat.le_of_ble_eq_true rfl)) d_Cs_define_40 ⟨by decide, by decide⟩) ?_
          refine zb_if_ne (tgt := 57) hx hb d_Cs_define_43 (by decide) (fun c43 => ?_) (fun c43 => ?_)
          · refine lv_iconst (v := iZ (-1)) hx hb d_Cs_define_57 rfl ?_
            exact rw_iret hx hb hr hlocks d_Cs_define_58 (by omega) (by omega) hF ⟨congrArg iZ ((by rw [dfR, if_pos (Or.inr (Or.inr (Or.inr (Or.inr (Or.inl (of_decide_eq_true c43))))))] : dfR M p1 c1 d1 r1 o1 = -1)).symm, ⟨A, (by rw [dfM, if_neg (by rw [(by rw [dfR, if_pos (Or.inr (Or.inr (Or.inr (Or.inr (Or.inl (of_decide_eq_true c43))))))] : dfR M p1 c1 d1 r1 o1 = -1)]; decide)]; exact ⟨hC, hO.grow⟩)⟩, fun q _ _ => rfl⟩
          · refine lv_iload hx hb d_Cs_define_46 (lv_at hl 5 rfl) ?_
            refine lv_iconst (v := iZ (-1)) hx hb d_Cs_define_48 rfl ?_
            refine lv_bipush (v := iZ 59) hx hb d_Cs_define_49 (by decide) ?_
            refine fw_ro (r := .int (bZ (decide (o1 < -1 ∨ 59 < o1)))) (va_runS (As := [.int (iZ o1), .int (iZ (-1)), .int (iZ 59)]) (rest := []) ⟨hx, hb, hml, hown, hts⟩ (c_Cs_outside l g w o1 (-1) 59 ⟨by omega, by omega⟩ ⟨by omega, by omega⟩ ⟨by omega, by omega⟩) (va_cwS 3 hts (gdS k_Cs_isOutside t_141 t_142 t_45) rfl rfl rfl (by decide +kernel) ⟨Nat.le_of_ble_eq_true rfl, Nat.le_of_ble_eq_true rfl⟩) ⟨roP_blind, roP_pre hK hF.1⟩ rfl rfl hl.1 rfl (lv_room (Nat.le_of_ble_eq_true rfl)) d_Cs_define_51 ⟨by decide, by decide⟩) ?_
            refine zb_if_eq (tgt := 59) hx hb d_Cs_define_54 (by decide) (fun c54 => ?_) (fun c54 => ?_)
            · have nz : ¬ (mSt M = true ∨ (p1 < 2 ∨ 60 < p1) ∨ (c1 < 1 ∨ p1 < c1) ∨ (d1 < 1 ∨ p1 < d1) ∨ (r1 < 1 ∨ 10 < r1) ∨ (o1 < -1 ∨ 59 < o1)) := fun q => q.elim (fun z => by rw [c4] at z; cases z) (fun z => z.elim (of_decide_eq_false c14) (fun z => z.elim (of_decide_eq_false c23) (fun z => z.elim (of_decide_eq_false c32) (fun z => z.elim (of_decide_eq_false c43) (of_decide_eq_false c54)))))
              refine lv_aload_n hx hb d_Cs_define_59 rfl (lv_at hl 0 rfl) ?_
              refine fw_get (ci := 4) (v := .ref (aTl A)) (C := rCs) (T := fCs) (N := 4) hx hb hts iCs hown hK hF.1 hc0 rfl 0 (by decide) (hts _ t_124) (fun _ h9 => h9) rfl d_Cs_define_60 ?_
              refine fw_ro (r := .int (iZ ((mN M : Int)))) (va_runV (As := []) (rest := []) ⟨hx, hb, hml, hown, hts⟩ (c_AL_size l g w (aTl A) (aTe A) (aMo A) ((mN M : Int)) htl) (cwV 0 hts (gdV k_AL_size t_144 t_145 t_146 t_48) rfl rfl rfl (by decide +kernel) ⟨Nat.le_of_ble_eq_true rfl, Nat.le_of_ble_eq_true rfl⟩) ⟨roP_blind, fw_recv hK hF.1 htl rfl, roP_pre hK hF.1⟩ rfl rfl hl.1 rfl (lv_room (Nat.le_of_ble_eq_true rfl)) d_Cs_define_63 ⟨by decide, by decide⟩) ?_
              refine lv_bipush (v := iZ 6) hx hb d_Cs_define_66 (by decide) ?_
              refine zz_icmp_lt (tgt := 74) hx hb d_Cs_define_68 (by decide) ⟨by omega, by omega⟩ ⟨by omega, by omega⟩ (fun c68 => ?_) (fun c68 => ?_)
              · have e0 : dfR M p1 c1 d1 r1 o1 = (mN M : Int) := by rw [dfR, if_neg nz, if_neg (by omega)]
                refine lv_aload_n hx hb d_Cs_define_74 rfl (lv_at hl 0 rfl) ?_
                refine fw_get (ci := 4) (v := .ref (aTl A)) (C := rCs) (T := fCs) (N := 4) hx hb hts iCs hown hK hF.1 hc0 rfl 0 (by decide) (hts _ t_124) (fun _ h9 => h9) rfl d_Cs_define_75 ?_
                refine fw_new (ci := 3) (fs := [.int (iZ 0), .int (iZ 0), .int (iZ 0), .int (iZ 0), .int (bZ false), .null, .null, .int (iZ 0)]) (C := rTa) (T := fTa) (N := 8) hx hb hts iTa yTa_t yTa_ok hown (hts _ t_148) (hts _ t_149) (hts _ t_51) hK hF hA rfl dv_Ta (Nat.le_of_ble_eq_true rfl) (Nat.le_of_ble_eq_true rfl) d_Cs_define_78 (fun q1 H nq1 hF => ?_)
                obtain ⟨w2, ew2⟩ : ∃ zw : fw, zw = fU w q1 (.inr (3, [.int (iZ 0), .int (iZ 0), .int (iZ 0), .int (iZ 0), .int (bZ false), .null, .null, .int (iZ 0)])) := ⟨_, rfl⟩
                have hF := fW_to ew2 hF
                have h3 : w2 a = some (.inr (4, [.ref (aTl A), .ref (aCa A), .ref (aHi A), .int (bZ (mSt M))])) := by rw [ew2]; exact fU_k (fw_new_ne hc0 nq1) hc0
                have h4 : w2 (aTl A) = some (.inr (6, [.int (iZ (aMo A)), .ref (aTe A), .int (iZ ((mN M : Int)))])) := by rw [ew2]; exact fU_k (fw_new_ne htl nq1) htl
                have h5 : w2 (aCa A) = some (aZ g.2.1 4 (mCe M)) := by rw [ew2]; exact fU_k (fw_new_ne hca nq1) hca
                have h6 : w2 (aHi A) = some (.inr (0, [.ref (aHa A), .int (iZ (hTi (mHi M))), .int (iZ (hId (mHi M))), .int (iZ (hSw (mHi M))), .int (iZ (hLr (mHi M))), .int (iZ (hLn (mHi M)))])) := by rw [ew2]; exact fU_k (fw_new_ne hhi nq1) hhi
                have h7 : w2 (aHa A) = some (aZ g.2.1 64 (hOf (mHi M))) := by rw [ew2]; exact fU_k (fw_new_ne hha nq1) hha
                have h8 : w2 q1 = some (.inr (3, [.int (iZ 0), .int (iZ 0), .int (iZ 0), .int (iZ 0), .int (bZ false), .null, .null, .int (iZ 0)])) := by rw [ew2]; exact fU_s _ _ _
                refine lv_dup hx hb d_Cs_define_81 rfl ?_
                refine lv_iload_n hx hb d_Cs_define_82 rfl (lv_at hl 1 rfl) ?_
                refine lv_iload_n hx hb d_Cs_define_83 rfl (lv_at hl 2 rfl) ?_
                refine lv_iload_n hx hb d_Cs_define_84 rfl (lv_at hl 3 rfl) ?_
                refine lv_iload hx hb d_Cs_define_85 (lv_at hl 4 rfl) ?_
                refine lv_iload hx hb d_Cs_define_87 (lv_at hl 5 rfl) ?_
                refine fw_callv (va_runIN (As := [.int (iZ p1), .int (iZ c1), .int (iZ d1), .int (iZ r1), .int (iZ o1)]) (rest := [.ref q1, .ref (aTl A)]) ⟨hx, hb, hml, hown, hts⟩ (c_Ta_init l g w2 H.size q1 p1 c1 d1 r1 o1 h8 ⟨by omega, by omega⟩) ⟨va_cnB 5 hts (gdT k_Ta_init) rfl rfl rfl (hK.2.1 _ n_150) (hts _ t_51) (by decide +kernel) ⟨Nat.le_of_ble_eq_true rfl, Nat.le_of_ble_eq_true rfl⟩, rfl, hts _ t_151⟩ ⟨rwP_blind, rwP_pre hK hT hA hF⟩ rfl rfl hl.1 rfl (lv_room (Nat.le_of_ble_eq_true rfl)) d_Cs_define_89 ⟨by decide, by decide⟩) hF hA (fun w9 H locs hp10 hz hF => ?_)
                obtain ⟨sl, jq, ra, j1, j2, j3, j4, j5, j6, j7, j8⟩ := hp10
                have h11 : w9 a = some (.inr (4, [.ref (aTl A), .ref (aCa A), .ref (aHi A), .int (bZ (mSt M))])) := (j8 a (fw_ne h3 h8 (ne_rr (by decide))) (fw_new_ne h3 j1) (fw_new_ne h3 j2) (fw_new_ne h3 j3)).trans h3
                have h12 : w9 (aTl A) = some (.inr (6, [.int (iZ (aMo A)), .ref (aTe A), .int (iZ ((mN M : Int)))])) := (j8 (aTl A) (fw_ne h4 h8 (ne_rr (by decide))) (fw_new_ne h4 j1) (fw_new_ne h4 j2) (fw_new_ne h4 j3)).trans h4
                have h13 : w9 (aCa A) = some (aZ g.2.1 4 (mCe M)) := (j8 (aCa A) (fw_ne h5 h8 ne_lr) (fw_new_ne h5 j1) (fw_new_ne h5 j2) (fw_new_ne h5 j3)).trans h5
                have h14 : w9 (aHi A) = some (.inr (0, [.ref (aHa A), .int (iZ (hTi (mHi M))), .int (iZ (hId (mHi M))), .int (iZ (hSw (mHi M))), .int (iZ (hLr (mHi M))), .int (iZ (hLn (mHi M)))])) := (j8 (aHi A) (fw_ne h6 h8 (ne_rr (by decide))) (fw_new_ne h6 j1) (fw_new_ne h6 j2) (fw_new_ne h6 j3)).trans h6
                have h15 : w9 (aHa A) = some (aZ g.2.1 64 (hOf (mHi M))) := (j8 (aHa A) (fw_ne h7 h8 ne_lr) (fw_new_ne h7 j1) (fw_new_ne h7 j2) (fw_new_ne h7 j3)).trans h7
                have n16 : w sl = none := fU_none (by rw [← ew2]; exact j1)
                have n17 : w jq = none := fU_none (by rw [← ew2]; exact j2)
                have n18 : w ra = none := fU_none (by rw [← ew2]; exact j3)
                rcases Nat.eq_zero_or_pos (mN M) with hzz | hzz
                · have hq0 : w9 (aTl A) = some (.inr (6, [.int (iZ (aMo A)), .ref g.2.2.2, .int (iZ 0)])) := by rw [h12, hC.te0 hzz, hzz]; rfl
                  refine fw_calli (va_runV (As := [.ref q1]) (rest := []) ⟨hx, hb, hml, hown, hts⟩ (c_AL_addF l g w9 H.size (aTl A) q1 (aMo A) 3 [.int (iZ p1), .int (iZ c1), .int (iZ d1), .int (iZ r1), .int (bZ (decide (o1 = -1))), .ref sl, .ref jq, .int (iZ o1)] (rTa, fTa, 8) hq0 j4 rfl n_689 (Ne.symm (fw_new_ne htl nq1))) (cwV 1 hts (gdV k_AL_add t_224 t_225 t_226 t_48) rfl rfl rfl (by decide +kernel) ⟨Nat.le_of_ble_eq_true rfl, Nat.le_of_ble_eq_true rfl⟩) ⟨rwP_blind, fw_recv hK hF.1 hq0 rfl, rwP_pre hK hT hA hF⟩ rfl rfl hl.1 rfl (lv_room (Nat.le_of_ble_eq_true rfl)) d_Cs_define_92 ⟨by decide, by decide⟩) hF hA (fun r21 w19 H locs hp20 hz hF => ?_)
                  obtain ⟨q22, m1, m2, m3, m4⟩ := hp20
                  have h23 : w19 a = some (.inr (4, [.ref (aTl A), .ref (aCa A), .ref (aHi A), .int (bZ (mSt M))])) := (m4 a (fw_ne h11 hq0 (ne_rr (by decide))) (fw_new_ne h11 m1)).trans h11
                  have h24 : w19 (aCa A) = some (aZ g.2.1 4 (mCe M)) := (m4 (aCa A) (fw_ne h13 hq0 ne_lr) (fw_new_ne h13 m1)).trans h13
                  have h25 : w19 (aHi A) = some (.inr (0, [.ref (aHa A), .int (iZ (hTi (mHi M))), .int (iZ (hId (mHi M))), .int (iZ (hSw (mHi M))), .int (iZ (hLr (mHi M))), .int (iZ (hLn (mHi M)))])) := (m4 (aHi A) (fw_ne h14 hq0 (ne_rr (by decide))) (fw_new_ne h14 m1)).trans h14
                  have h26 : w19 (aHa A) = some (aZ g.2.1 64 (hOf (mHi M))) := (m4 (aHa A) (fw_ne h15 hq0 ne_lr) (fw_new_ne h15 m1)).trans h15
                  have h27 : w19 q1 = some (.inr (3, [.int (iZ p1), .int (iZ c1), .int (iZ d1), .int (iZ r1), .int (bZ (decide (o1 = -1))), .ref sl, .ref jq, .int (iZ o1)])) := (m4 q1 (fw_ne j4 hq0 (ne_rr (by decide))) (fw_new_ne j4 m1)).trans j4
                  have h28 : w19 sl = some (.inr (6, [.int (iZ 0), .ref g.2.2.2, .int (iZ 0)])) := (m4 sl (Ne.symm (fw_new_ne htl n16)) (fw_new_ne j5 m1)).trans j5
                  have h29 : w19 jq = some (.inr (1, [.ref ra, .int (iZ 0), .int (iZ 0), .int (iZ 0), .int (iZ 0), .int (iZ 0), .int (iZ 0), .int (iZ 0)])) := (m4 jq (fw_ne j6 hq0 (ne_rr (by decide))) (fw_new_ne j6 m1)).trans j6
                  have h30 : w19 ra = some (aZ g.2.1 8 (fun _ => 0)) := (m4 ra (fw_ne j7 hq0 ne_lr) (fw_new_ne j7 m1)).trans j7
                  have n31 : w2 q22 = none := by
                    have z32 : q22 ≠ q1 := fun y => by rw [y, j4] at m1; cases m1
                    have z33 : q22 ≠ sl := fun y => by rw [y, j5] at m1; cases m1
                    have z34 : q22 ≠ jq := fun y => by rw [y, j6] at m1; cases m1
                    have z35 : q22 ≠ ra := fun y => by rw [y, j7] at m1; cases m1
                    rw [← j8 q22 z32 z33 z34 z35]; exact m1
                  have n36 : w q22 = none := fU_none (by rw [← ew2]; exact n31)
                  refine lv_pop hx hb d_Cs_define_95 rfl ?_
                  refine lv_aload_n hx hb d_Cs_define_96 rfl (lv_at hl 0 rfl) ?_
                  refine fw_get (ci := 4) (v := .ref (aTl A)) (C := rCs) (T := fCs) (N := 4) hx hb hts iCs hown hK hF.1 h23 rfl 0 (by decide) (hts _ t_124) (fun _ h9 => h9) rfl d_Cs_define_97 ?_
                  refine fw_ro (r := .int (iZ (0 + 1))) (va_runV (As := []) (rest := []) ⟨hx, hb, hml, hown, hts⟩ (c_AL_size l g w19 (aTl A) q22 (aMo A + 1) (0 + 1) m2) (cwV 0 hts (gdV k_AL_size t_144 t_145 t_146 t_48) rfl rfl rfl (by decide +kernel) ⟨Nat.le_of_ble_eq_true rfl, Nat.le_of_ble_eq_true rfl⟩) ⟨roP_blind, fw_recv hK hF.1 m2 rfl, roP_pre hK hF.1⟩ rfl rfl hl.1 rfl (lv_room (Nat.le_of_ble_eq_true rfl)) d_Cs_define_100 ⟨by decide, by decide⟩) ?_
                  refine lv_iconst (v := iZ 1) hx hb d_Cs_define_103 rfl ?_
                  refine zz_isub hx hb d_Cs_define_104 ?_
                  have hoff : ∀ q, q ≠ aTl A → q ≠ q22 → q ≠ q1 → q ≠ sl → q ≠ jq → q ≠ ra → w19 q = w q := (fun q x0 x1 x2 x3 x4 x5 => by rw [m4 q x0 x1, j8 q x2 x3 x4 x5, ew2, fU_n x2])
                  exact rw_iret hx hb hr hlocks d_Cs_define_105 (by omega) (by omega) hF ⟨congrArg iZ (by rw [e0]; omega), ⟨_, (by rw [dfM, if_pos (by rw [e0]; omega)]; exact hC.addTask (x := (p1, c1, d1, r1, decide (o1 = -1))) (of := o1) (by rw [m2, hzz]; rfl) m3 (by rw [hzz]; exact va_up_s _ _ _) (fun j hj => absurd hj (by omega)) h27 h28 h29 h30 nq1 n16 n17 n18 (Or.inr n36) hoff), (by rw [dfM, if_pos (by rw [e0]; omega)]; exact hO.addTask nq1 n16 n17 n18 (Or.inr n36))⟩, (fun y hy hn => hoff y (own_ne hy hO.2.1) (fun e => hn (e ▸ n36)) (fun e => hn (e ▸ nq1)) (fun e => hn (e ▸ n16)) (fun e => hn (e ▸ n17)) (fun e => hn (e ▸ n18)))⟩
                · have hte := hC.te hzz
                  have hte2 : w9 (aTe A) = some (aQ g.2.2.1 10 (aQf A)) := by
                    rw [j8 (aTe A) (fw_new_ne hte nq1) (fw_new_ne hte n16) (fw_new_ne hte n17) (fw_new_ne hte n18), ew2, fU_n (fw_new_ne hte nq1)]; exact hte
                  refine fw_calli (va_runV (As := [.ref q1]) (rest := []) ⟨hx, hb, hml, hown, hts⟩ (c_AL_addR l g w9 H.size (aTl A) q1 (aTe A) (aMo A) (mN M) (aQf A) 3 [.int (iZ p1), .int (iZ c1), .int (iZ d1), .int (iZ r1), .int (bZ (decide (o1 = -1))), .ref sl, .ref jq, .int (iZ o1)] (rTa, fTa, 8) h12 j4 rfl n_689 (Ne.symm (fw_new_ne htl nq1)) hte2 (by omega)) (cwV 1 hts (gdV k_AL_add t_224 t_225 t_226 t_48) rfl rfl rfl (by decide +kernel) ⟨Nat.le_of_ble_eq_true rfl, Nat.le_of_ble_eq_true rfl⟩) ⟨rwP_blind, fw_recv hK hF.1 h12 rfl, rwP_pre hK hT hA hF⟩ rfl rfl hl.1 rfl (lv_room (Nat.le_of_ble_eq_true rfl)) d_Cs_define_92 ⟨by decide, by decide⟩) hF hA (fun r39 w37 H locs hp38 hz hF => ?_)
                  obtain ⟨m2, m3, m4⟩ := hp38
                  have h40 : w37 a = some (.inr (4, [.ref (aTl A), .ref (aCa A), .ref (aHi A), .int (bZ (mSt M))])) := (m4 a (fw_ne h11 h12 (ne_rr (by decide))) (fw_ne h11 hte2 ne_rl)).trans h11
                  have h41 : w37 (aCa A) = some (aZ g.2.1 4 (mCe M)) := (m4 (aCa A) (fw_ne h13 h12 ne_lr) (fw_ne h13 hte2 (ne_ll (by decide)))).trans h13
                  have h42 : w37 (aHi A) = some (.inr (0, [.ref (aHa A), .int (iZ (hTi (mHi M))), .int (iZ (hId (mHi M))), .int (iZ (hSw (mHi M))), .int (iZ (hLr (mHi M))), .int (iZ (hLn (mHi M)))])) := (m4 (aHi A) (fw_ne h14 h12 (ne_rr (by decide))) (fw_ne h14 hte2 ne_rl)).trans h14
                  have h43 : w37 (aHa A) = some (aZ g.2.1 64 (hOf (mHi M))) := (m4 (aHa A) (fw_ne h15 h12 ne_lr) (fw_ne h15 hte2 (ne_ll (by decide)))).trans h15
                  have h44 : w37 q1 = some (.inr (3, [.int (iZ p1), .int (iZ c1), .int (iZ d1), .int (iZ r1), .int (bZ (decide (o1 = -1))), .ref sl, .ref jq, .int (iZ o1)])) := (m4 q1 (fw_ne j4 h12 (ne_rr (by decide))) (fw_ne j4 hte2 ne_rl)).trans j4
                  have h45 : w37 sl = some (.inr (6, [.int (iZ 0), .ref g.2.2.2, .int (iZ 0)])) := (m4 sl (Ne.symm (fw_new_ne htl n16)) (fw_ne j5 hte2 ne_rl)).trans j5
                  have h46 : w37 jq = some (.inr (1, [.ref ra, .int (iZ 0), .int (iZ 0), .int (iZ 0), .int (iZ 0), .int (iZ 0), .int (iZ 0), .int (iZ 0)])) := (m4 jq (fw_ne j6 h12 (ne_rr (by decide))) (fw_ne j6 hte2 ne_rl)).trans j6
                  have h47 : w37 ra = some (aZ g.2.1 8 (fun _ => 0)) := (m4 ra (fw_ne j7 h12 ne_lr) (fw_ne j7 hte2 (ne_ll (by decide)))).trans j7
                  refine lv_pop hx hb d_Cs_define_95 rfl ?_
                  refine lv_aload_n hx hb d_Cs_define_96 rfl (lv_at hl 0 rfl) ?_
                  refine fw_get (ci := 4) (v := .ref (aTl A)) (C := rCs) (T := fCs) (N := 4) hx hb hts iCs hown hK hF.1 h40 rfl 0 (by decide) (hts _ t_124) (fun _ h9 => h9) rfl d_Cs_define_97 ?_
                  refine fw_ro (r := .int (iZ ((mN M : Int) + 1))) (va_runV (As := []) (rest := []) ⟨hx, hb, hml, hown, hts⟩ (c_AL_size l g w37 (aTl A) (aTe A) (aMo A + 1) ((mN M : Int) + 1) m2) (cwV 0 hts (gdV k_AL_size t_144 t_145 t_146 t_48) rfl rfl rfl (by decide +kernel) ⟨Nat.le_of_ble_eq_true rfl, Nat.le_of_ble_eq_true rfl⟩) ⟨roP_blind, fw_recv hK hF.1 m2 rfl, roP_pre hK hF.1⟩ rfl rfl hl.1 rfl (lv_room (Nat.le_of_ble_eq_true rfl)) d_Cs_define_100 ⟨by decide, by decide⟩) ?_
                  refine lv_iconst (v := iZ 1) hx hb d_Cs_define_103 rfl ?_
                  refine zz_isub hx hb d_Cs_define_104 ?_
                  have hoff : ∀ q, q ≠ aTl A → q ≠ aTe A → q ≠ q1 → q ≠ sl → q ≠ jq → q ≠ ra → w37 q = w q := (fun q x0 x1 x2 x3 x4 x5 => by rw [m4 q x0 x1, j8 q x2 x3 x4 x5, ew2, fU_n x2])
                  exact rw_iret hx hb hr hlocks d_Cs_define_105 (by omega) (by omega) hF ⟨congrArg iZ (by rw [e0]; omega), ⟨_, (by rw [dfM, if_pos (by rw [e0]; omega)]; exact hC.addTask (x := (p1, c1, d1, r1, decide (o1 = -1))) (of := o1) m2 m3 (va_up_s _ _ _) (fun j hj => (va_up_n _ _ (Nat.ne_of_lt hj)).trans (hC.qf j hj)) h44 h45 h46 h47 nq1 n16 n17 n18 (Or.inl ⟨hzz, rfl⟩) hoff), (by rw [dfM, if_pos (by rw [e0]; omega)]; exact hO.addTask nq1 n16 n17 n18 (Or.inl ⟨hzz, rfl⟩))⟩, (fun y hy hn => hoff y (own_ne hy hO.2.1) (own_ne hy (hO.2.2.2.2.2.1 hzz)) (fun e => hn (e ▸ nq1)) (fun e => hn (e ▸ n16)) (fun e => hn (e ▸ n17)) (fun e => hn (e ▸ n18)))⟩
              · refine lv_bipush (v := iZ (-2)) hx hb d_Cs_define_71 (by decide) ?_
                exact rw_iret hx hb hr hlocks d_Cs_define_73 (by omega) (by omega) hF ⟨congrArg iZ ((by rw [dfR, if_neg nz, if_pos (by omega)] : dfR M p1 c1 d1 r1 o1 = -2)).symm, ⟨A, (by rw [dfM, if_neg (by rw [(by rw [dfR, if_neg nz, if_pos (by omega)] : dfR M p1 c1 d1 r1 o1 = -2)]; decide)]; exact ⟨hC, hO.grow⟩)⟩, fun q _ _ => rfl⟩
            · refine lv_iconst (v := iZ (-1)) hx hb d_Cs_define_57 rfl ?_
              exact rw_iret hx hb hr hlocks d_Cs_define_58 (by omega) (by omega) hF ⟨congrArg iZ ((by rw [dfR, if_pos (Or.inr (Or.inr (Or.inr (Or.inr (Or.inr (of_decide_eq_true c54))))))] : dfR M p1 c1 d1 r1 o1 = -1)).symm, ⟨A, (by rw [dfM, if_neg (by rw [(by rw [dfR, if_pos (Or.inr (Or.inr (Or.inr (Or.inr (Or.inr (of_decide_eq_true c54))))))] : dfR M p1 c1 d1 r1 o1 = -1)]; decide)]; exact ⟨hC, hO.grow⟩)⟩, fun q _ _ => rfl⟩
