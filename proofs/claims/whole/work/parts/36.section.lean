set_option maxHeartbeats 4000000 in
set_option maxRecDepth 100000 in
theorem c_Cs_section (l : Launch) (g : GG) (w : fw) (sz : Nat) (a : Nat) (A : ADT) (M : CsM) (O : Nat → Prop) (tb : Int) (v o1 x1 y1 : Int) (hC : CsP g w a A M) (hI : CsI M tb) (hO : CsO O a A M) (hr_0 : ir v) (hr_1 : ir o1) (hr_2 : ir x1) (hr_3 : ir y1) : RWi l y_Cs_section w_Cs_section ({ frames := 5, cells := 2, slots := 13, locals := 102 }) g w sz [.ref a, .int (iZ v), .int (iZ o1), .int (iZ x1), .int (iZ y1)] 2 13 ((fun rr1 w1 => rr1 = iZ (scR M v o1 x1 y1) ∧ (∃ A1 : ADT, CsP g w1 a A1 (scM M v o1 x1 y1) ∧ CsO (fun y => O y ∨ w y = none) a A1 (scM M v o1 x1 y1)) ∧ ∀ q, ¬ O q → w q ≠ none → w1 q = w q)) := by
  refine rw_go (by decide) rfl (Nat.le_of_ble_eq_true rfl) ?_
  intro p e s m below meth c hx hb hr hml hown hts hlocks hin hsz hK hT hA hF ls hl
  subst hsz
  have hown : s.vm.findClass rCs = some m.cls := hown
  have hl : lv_has ls 6 [(0, .ref a), (1, .int (iZ v)), (2, .int (iZ o1)), (3, .int (iZ x1)), (4, .int (iZ y1))] := hl
  have hI0 := hI
  have hc0 := hC.c0
  have htl := hC.tl
  have hca := hC.ca
  have hhi := hC.hi
  have hha := hC.ha
  obtain ⟨itb, in6, iti, ilr, iln, ice, itk⟩ := hI
  obtain ⟨hr_0a, hr_0b⟩ := hr_0
  obtain ⟨hr_1a, hr_1b⟩ := hr_1
  obtain ⟨hr_2a, hr_2b⟩ := hr_2
  obtain ⟨hr_3a, hr_3b⟩ := hr_3
  refine lv_aload_n hx hb d_Cs_section_0 rfl (lv_at hl 0 rfl) ?_
  refine fw_get (ci := 4) (v := .int (bZ (mSt M))) (C := rCs) (T := fCs) (N := 4) hx hb hts iCs hown hK hF.1 hc0 rfl 3 (by decide) (hts _ t_127) (fun _ h9 => h9) rfl d_Cs_section_1 ?_
  refine zb_if_ne (tgt := 43) hx hb d_Cs_section_4 (by decide) (fun c4 => ?_) (fun c4 => ?_)
  · refine lv_iconst (v := iZ (-1)) hx hb d_Cs_section_43 rfl ?_
    exact rw_iret hx hb hr hlocks d_Cs_section_44 (by omega) (by omega) hF ⟨congrArg iZ ((by rw [scR, if_pos (Or.inl c4)] : scR M v o1 x1 y1 = -1)).symm, ⟨A, (by rw [scM, if_neg (by rw [(by rw [scR, if_pos (Or.inl c4)] : scR M v o1 x1 y1 = -1)]; decide)]; exact ⟨hC, hO.grow⟩)⟩, fun q _ _ => rfl⟩
  · refine lv_aload_n hx hb d_Cs_section_7 rfl (lv_at hl 0 rfl) ?_
    refine lv_iload_n hx hb d_Cs_section_8 rfl (lv_at hl 1 rfl) ?_
    refine fw_ro (r := .int (bZ (decide (v < 0 ∨ (mN M : Int) - 1 < v)))) (va_runV (As := [.int (iZ v)]) (rest := []) ⟨hx, hb, hml, hown, hts⟩ (c_Cs_noTask l g w a A M tb v hC hI0 ⟨by omega, by omega⟩) (cwV 1 hts (gdV k_Cs_isNoTask t_315 t_317 t_5 t_45) rfl rfl rfl (by decide +kernel) ⟨Nat.le_of_ble_eq_true rfl, Nat.le_of_ble_eq_true rfl⟩) ⟨roP_blind, fw_recv hK hF.1 hc0 rfl, roP_pre hK hF.1⟩ rfl rfl hl.1 rfl (lv_room (Nat.le_of_ble_eq_true rfl)) d_Cs_section_9 ⟨by decide, by decide⟩) ?_
    refine zb_if_ne (tgt := 43) hx hb d_Cs_section_12 (by decide) (fun c12 => ?_) (fun c12 => ?_)
    · refine lv_iconst (v := iZ (-1)) hx hb d_Cs_section_43 rfl ?_
      exact rw_iret hx hb hr hlocks d_Cs_section_44 (by omega) (by omega) hF ⟨congrArg iZ ((by rw [scR, if_pos (Or.inr (Or.inl (of_decide_eq_true c12)))] : scR M v o1 x1 y1 = -1)).symm, ⟨A, (by rw [scM, if_neg (by rw [(by rw [scR, if_pos (Or.inr (Or.inl (of_decide_eq_true c12)))] : scR M v o1 x1 y1 = -1)]; decide)]; exact ⟨hC, hO.grow⟩)⟩, fun q _ _ => rfl⟩
    · refine lv_iload_n hx hb d_Cs_section_15 rfl (lv_at hl 2 rfl) ?_
      refine fw_ro (r := .int (bZ (decide (o1 < 0 ∨ 3 < o1)))) (va_runS (As := [.int (iZ o1)]) (rest := []) ⟨hx, hb, hml, hown, hts⟩ (c_Cs_noObj l g w o1 ⟨by omega, by omega⟩) (va_cwS 1 hts (gdS k_Cs_isNoObject t_282 t_283 t_45) rfl rfl rfl (by decide +kernel) ⟨Nat.le_of_ble_eq_true rfl, Nat.le_of_ble_eq_true rfl⟩) ⟨roP_blind, roP_pre hK hF.1⟩ rfl rfl hl.1 rfl (lv_room (Nat.le_of_ble_eq_true rfl)) d_Cs_section_16 ⟨by decide, by decide⟩) ?_
      refine zb_if_ne (tgt := 43) hx hb d_Cs_section_19 (by decide) (fun c19 => ?_) (fun c19 => ?_)
      · refine lv_iconst (v := iZ (-1)) hx hb d_Cs_section_43 rfl ?_
        exact rw_iret hx hb hr hlocks d_Cs_section_44 (by omega) (by omega) hF ⟨congrArg iZ ((by rw [scR, if_pos (Or.inr (Or.inr (Or.inl (of_decide_eq_true c19))))] : scR M v o1 x1 y1 = -1)).symm, ⟨A, (by rw [scM, if_neg (by rw [(by rw [scR, if_pos (Or.inr (Or.inr (Or.inl (of_decide_eq_true c19))))] : scR M v o1 x1 y1 = -1)]; decide)]; exact ⟨hC, hO.grow⟩)⟩, fun q _ _ => rfl⟩
      · refine lv_iload_n hx hb d_Cs_section_22 rfl (lv_at hl 3 rfl) ?_
        refine lv_iconst (v := iZ 0) hx hb d_Cs_section_23 rfl ?_
        refine lv_bipush (v := iZ 59) hx hb d_Cs_section_24 (by decide) ?_
        refine fw_ro (r := .int (bZ (decide (x1 < 0 ∨ 59 < x1)))) (va_runS (As := [.int (iZ x1), .int (iZ 0), .int (iZ 59)]) (rest := []) ⟨hx, hb, hml, hown, hts⟩ (c_Cs_outside l g w x1 0 59 ⟨by omega, by omega⟩ ⟨by omega, by omega⟩ ⟨by omega, by omega⟩) (va_cwS 3 hts (gdS k_Cs_isOutside t_141 t_142 t_45) rfl rfl rfl (by decide +kernel) ⟨Nat.le_of_ble_eq_true rfl, Nat.le_of_ble_eq_true rfl⟩) ⟨roP_blind, roP_pre hK hF.1⟩ rfl rfl hl.1 rfl (lv_room (Nat.le_of_ble_eq_true rfl)) d_Cs_section_26 ⟨by decide, by decide⟩) ?_
        refine zb_if_ne (tgt := 43) hx hb d_Cs_section_29 (by decide) (fun c29 => ?_) (fun c29 => ?_)
        · refine lv_iconst (v := iZ (-1)) hx hb d_Cs_section_43 rfl ?_
          exact rw_iret hx hb hr hlocks d_Cs_section_44 (by omega) (by omega) hF ⟨congrArg iZ ((by rw [scR, if_pos (Or.inr (Or.inr (Or.inr (Or.inl (of_decide_eq_true c29)))))] : scR M v o1 x1 y1 = -1)).symm, ⟨A, (by rw [scM, if_neg (by rw [(by rw [scR, if_pos (Or.inr (Or.inr (Or.inr (Or.inl (of_decide_eq_true c29)))))] : scR M v o1 x1 y1 = -1)]; decide)]; exact ⟨hC, hO.grow⟩)⟩, fun q _ _ => rfl⟩
        · refine lv_iload hx hb d_Cs_section_32 (lv_at hl 4 rfl) ?_
          refine lv_iconst (v := iZ 1) hx hb d_Cs_section_34 rfl ?_
          refine lv_bipush (v := iZ 60) hx hb d_Cs_section_35 (by decide) ?_
          refine fw_ro (r := .int (bZ (decide (y1 < 1 ∨ 60 < y1)))) (va_runS (As := [.int (iZ y1), .int (iZ 1), .int (iZ 60)]) (rest := []) ⟨hx, hb, hml, hown, hts⟩ (c_Cs_outside l g w y1 1 60 ⟨by omega, by omega⟩ ⟨by omega, by omega⟩ ⟨by omega, by omega⟩) (va_cwS 3 hts (gdS k_Cs_isOutside t_141 t_142 t_45) rfl rfl rfl (by decide +kernel) ⟨Nat.le_of_ble_eq_true rfl, Nat.le_of_ble_eq_true rfl⟩) ⟨roP_blind, roP_pre hK hF.1⟩ rfl rfl hl.1 rfl (lv_room (Nat.le_of_ble_eq_true rfl)) d_Cs_section_37 ⟨by decide, by decide⟩) ?_
          refine zb_if_eq (tgt := 45) hx hb d_Cs_section_40 (by decide) (fun c40 => ?_) (fun c40 => ?_)
          · have n12 := of_decide_eq_false c12
            have n19 := of_decide_eq_false c19
            have n29 := of_decide_eq_false c29
            have n40 := of_decide_eq_false c40
            obtain ⟨t, et⟩ := Int.eq_ofNat_of_zero_le (show 0 ≤ v by omega)
            subst et
            have htn : t < mN M := by omega
            have nz1 : ¬ (mSt M = true ∨ ((t : Int) < 0 ∨ (mN M : Int) - 1 < (t : Int)) ∨ (o1 < 0 ∨ 3 < o1) ∨ (x1 < 0 ∨ 59 < x1) ∨ (y1 < 1 ∨ 60 < y1)) := fun q => q.elim (fun z => by rw [c4] at z; cases z) (fun z => z.elim n12 (fun z => z.elim n19 (fun z => z.elim n29 n40)))
            refine lv_aload_n hx hb d_Cs_section_45 rfl (lv_at hl 0 rfl) ?_
            refine fw_get (ci := 4) (v := .ref (aTl A)) (C := rCs) (T := fCs) (N := 4) hx hb hts iCs hown hK hF.1 hc0 rfl 0 (by decide) (hts _ t_124) (fun _ h9 => h9) rfl d_Cs_section_46 ?_
            refine lv_iload_n hx hb d_Cs_section_49 rfl (lv_at hl 1 rfl) ?_
            refine fw_ro (r := .ref (aTk A t)) (va_runV (As := [.int (iZ ((t : Int)))]) (rest := []) ⟨hx, hb, hml, hown, hts⟩ (c_AL_get l g w (aTl A) (aTe A) (aMo A) (mN M) (aQf A) t (aTk A t) htl (hC.te (by omega)) (by omega) (by omega) (hC.qf t (by omega))) (cwV 1 hts (gdV k_AL_get t_289 t_290 t_291 t_48) rfl rfl rfl (by decide +kernel) ⟨Nat.le_of_ble_eq_true rfl, Nat.le_of_ble_eq_true rfl⟩) ⟨roP_blind, fw_recv hK hF.1 htl rfl, roP_pre hK hF.1⟩ rfl rfl hl.1 rfl (lv_room (Nat.le_of_ble_eq_true rfl)) d_Cs_section_50 ⟨by decide, by decide⟩) ?_
            obtain ⟨ktt, kslt, ks0t, kset, kqft, ksat, kjqt, krat⟩ := hC.tk t (by omega)
            obtain ⟨rpert, rcstt, rddlt, rprit, rnst, rSt, rnxt, rfrt, rndt, ruft, rrlt, rlrt, rgrt, rret, rlxt⟩ := itk t (by omega)
            refine fw_cast (T := fTa) (N := 8) hx hb hown (hts _ t_148) hK hF.1 ktt rfl d_Cs_section_53 ?_
            refine lv_astore (lv' := [(5, .ref (aTk A t)), (0, .ref a), (1, .int (iZ ((t : Int)))), (2, .int (iZ o1)), (3, .int (iZ x1)), (4, .int (iZ y1))]) hx hb d_Cs_section_56 hl (by decide) rfl (fun ls hl => ?_)
            refine lv_iload_n hx hb d_Cs_section_58 rfl (lv_at hl 4 rfl) ?_
            refine lv_iload hx hb d_Cs_section_59 (lv_at hl 5 rfl) ?_
            refine zz_iadd hx hb d_Cs_section_61 ?_
            refine lv_aload hx hb d_Cs_section_62 (lv_at hl 0 rfl) ?_
            refine fw_getN (ci := 3) (v := .int (iZ (sCst (mTs M t)))) (C := rTa) (T := fTa) (N := 8) (index := 63) (ref := "CeilingScheduler$Task") (host := "CeilingScheduler") hx hb hts iTa hown hK hF.1 ktt rfl 1 (by decide) n_195 (fun _ h9 => h9) rfl d_Cs_section_64 ?_
            refine zz_icmp_gt (tgt := 97) hx hb d_Cs_section_67 (by decide) ⟨by omega, by omega⟩ ⟨by omega, by omega⟩ (fun c67 => ?_) (fun c67 => ?_)
            · refine lv_iconst (v := iZ (-1)) hx hb d_Cs_section_97 rfl ?_
              exact rw_iret hx hb hr hlocks d_Cs_section_98 (by omega) (by omega) hF ⟨congrArg iZ ((by rw [scR, if_neg nz1, Int.toNat_natCast, if_pos (Or.inl c67)] : scR M (t : Int) o1 x1 y1 = -1)).symm, ⟨A, (by rw [scM, if_neg (by rw [(by rw [scR, if_neg nz1, Int.toNat_natCast, if_pos (Or.inl c67)] : scR M (t : Int) o1 x1 y1 = -1)]; decide)]; exact ⟨hC, hO.grow⟩)⟩, fun q _ _ => rfl⟩
            · refine lv_aload hx hb d_Cs_section_70 (lv_at hl 0 rfl) ?_
              refine lv_iload_n hx hb d_Cs_section_72 rfl (lv_at hl 4 rfl) ?_
              refine lv_iload_n hx hb d_Cs_section_73 rfl (lv_at hl 4 rfl) ?_
              refine lv_iload hx hb d_Cs_section_74 (lv_at hl 5 rfl) ?_
              refine zz_iadd hx hb d_Cs_section_76 ?_
              refine fw_ro (r := .int (bZ (hsW (mSc M t) x1 (x1 + y1) (mNs M t) 0))) (va_runVN (As := [.int (iZ x1), .int (iZ (x1 + y1))]) (rest := []) ⟨hx, hb, hml, hown, hts⟩ (c_Ta_secIn l g w (aTk A t) (aSl A t) (aSe A t) (aJq A t) (aRa A t) (aSa A t) (sPer (mTs M t)) (sCst (mTs M t)) (sDdl (mTs M t)) (sPri (mTs M t)) (dNxt (mTd M t)) (sSpo (mTs M t)) (mNs M t) (mSc M t) (aMs A t) (aQs A t) (dFr (mTd M t)) (dNd (mTd M t)) (dUf (mTd M t)) (dRl (mTd M t)) (dLr (mTd M t)) (dDl (mTd M t)) (dGr (mTd M t)) x1 (x1 + y1) ktt kslt (by omega) kset kqft ksat rSt ⟨by omega, by omega⟩ ⟨by omega, by omega⟩) ⟨va_cnB 2 hts (gdT k_Ta_hasSectionWithin) rfl rfl rfl (hK.2.1 _ n_319) (hts _ t_51) (by decide +kernel) ⟨Nat.le_of_ble_eq_true rfl, Nat.le_of_ble_eq_true rfl⟩, hts _ t_321, hts _ t_6⟩ ⟨roP_blind, fw_recv hK hF.1 ktt rfl, roP_pre hK hF.1⟩ rfl rfl hl.1 rfl (lv_room (Nat.le_of_ble_eq_true rfl)) d_Cs_section_77 ⟨by decide, by decide⟩) ?_
              refine zb_if_ne (tgt := 97) hx hb d_Cs_section_80 (by decide) (fun c80 => ?_) (fun c80 => ?_)
              · refine lv_iconst (v := iZ (-1)) hx hb d_Cs_section_97 rfl ?_
                exact rw_iret hx hb hr hlocks d_Cs_section_98 (by omega) (by omega) hF ⟨congrArg iZ ((by rw [scR, if_neg nz1, Int.toNat_natCast, if_pos (Or.inr (Or.inl c80))] : scR M (t : Int) o1 x1 y1 = -1)).symm, ⟨A, (by rw [scM, if_neg (by rw [(by rw [scR, if_neg nz1, Int.toNat_natCast, if_pos (Or.inr (Or.inl c80))] : scR M (t : Int) o1 x1 y1 = -1)]; decide)]; exact ⟨hC, hO.grow⟩)⟩, fun q _ _ => rfl⟩
              · refine lv_aload_n hx hb d_Cs_section_83 rfl (lv_at hl 1 rfl) ?_
                refine fw_get (ci := 4) (v := .ref (aCa A)) (C := rCs) (T := fCs) (N := 4) hx hb hts iCs hown hK hF.1 hc0 rfl 1 (by decide) (hts _ t_125) (fun _ h9 => h9) rfl d_Cs_section_84 ?_
                refine lv_iload_n hx hb d_Cs_section_87 rfl (lv_at hl 3 rfl) ?_
                have hce := ice o1.toNat
                refine fw_iald hx hb hK hF.1 hca (by decide) o1.toNat (by omega) (by omega) d_Cs_section_88 ?_
                refine lv_aload hx hb d_Cs_section_89 (lv_at hl 0 rfl) ?_
                refine fw_getN (ci := 3) (v := .int (iZ (sPri (mTs M t)))) (C := rTa) (T := fTa) (N := 8) (index := 71) (ref := "CeilingScheduler$Task") (host := "CeilingScheduler") hx hb hts iTa hown hK hF.1 ktt rfl 3 (by decide) n_199 (fun _ h9 => h9) rfl d_Cs_section_91 ?_
                refine zz_icmp_ge (tgt := 99) hx hb d_Cs_section_94 (by decide) ⟨by omega, by omega⟩ ⟨by omega, by omega⟩ (fun c94 => ?_) (fun c94 => ?_)
                · have nz2 : ¬ (sCst (mTs M t) < x1 + y1 ∨ hsW (mSc M t) x1 (x1 + y1) (mNs M t) 0 = true ∨ mCe M o1.toNat < sPri (mTs M t)) := fun q => q.elim (fun z => by omega) (fun z => z.elim (fun z => by rw [c80] at z; cases z) (fun z => by omega))
                  refine lv_aload hx hb d_Cs_section_99 (lv_at hl 0 rfl) ?_
                  refine fw_getN (ci := 3) (v := .ref (aSl A t)) (C := rTa) (T := fTa) (N := 8) (index := 74) (ref := "CeilingScheduler$Task") (host := "CeilingScheduler") hx hb hts iTa hown hK hF.1 ktt rfl 5 (by decide) n_203 (fun _ h9 => h9) rfl d_Cs_section_101 ?_
                  refine fw_ro (r := .int (iZ ((mNs M t : Int)))) (va_runV (As := []) (rest := []) ⟨hx, hb, hml, hown, hts⟩ (c_AL_size l g w (aSl A t) (aSe A t) (aMs A t) ((mNs M t : Int)) kslt) (cwV 0 hts (gdV k_AL_size t_144 t_145 t_146 t_48) rfl rfl rfl (by decide +kernel) ⟨Nat.le_of_ble_eq_true rfl, Nat.le_of_ble_eq_true rfl⟩) ⟨roP_blind, fw_recv hK hF.1 kslt rfl, roP_pre hK hF.1⟩ rfl rfl hl.1 rfl (lv_room (Nat.le_of_ble_eq_true rfl)) d_Cs_section_104 ⟨by decide, by decide⟩) ?_
                  refine lv_iconst (v := iZ 3) hx hb d_Cs_section_107 rfl ?_
                  refine zz_icmp_lt (tgt := 114) hx hb d_Cs_section_108 (by decide) ⟨by omega, by omega⟩ ⟨by omega, by omega⟩ (fun c108 => ?_) (fun c108 => ?_)
                  · have e0 : scR M (t : Int) o1 x1 y1 = 0 := by rw [scR, if_neg nz1, Int.toNat_natCast, if_neg nz2, if_neg (by omega)]
                    refine lv_aload hx hb d_Cs_section_114 (lv_at hl 0 rfl) ?_
                    refine fw_getN (ci := 3) (v := .ref (aSl A t)) (C := rTa) (T := fTa) (N := 8) (index := 74) (ref := "CeilingScheduler$Task") (host := "CeilingScheduler") hx hb hts iTa hown hK hF.1 ktt rfl 5 (by decide) n_203 (fun _ h9 => h9) rfl d_Cs_section_116 ?_
                    refine fw_new (ci := 2) (fs := [.int (iZ 0), .int (iZ 0), .int (iZ 0)]) (C := rSe) (T := fSe) (N := 3) hx hb hts iSe ySe_t ySe_ok hown (hts _ t_323) (hts _ t_324) (hts _ t_59) hK hF hA rfl dv_Se (Nat.le_of_ble_eq_true rfl) (Nat.le_of_ble_eq_true rfl) d_Cs_section_119 (fun q1 H nq1 hF => ?_)
                    obtain ⟨w2, ew2⟩ : ∃ zw : fw, zw = fU w q1 (.inr (2, [.int (iZ 0), .int (iZ 0), .int (iZ 0)])) := ⟨_, rfl⟩
                    have hF := fW_to ew2 hF
                    have h3 : w2 a = some (.inr (4, [.ref (aTl A), .ref (aCa A), .ref (aHi A), .int (bZ (mSt M))])) := by rw [ew2]; exact fU_k (fw_new_ne hc0 nq1) hc0
                    have h4 : w2 (aTl A) = some (.inr (6, [.int (iZ (aMo A)), .ref (aTe A), .int (iZ ((mN M : Int)))])) := by rw [ew2]; exact fU_k (fw_new_ne htl nq1) htl
                    have h5 : w2 (aCa A) = some (aZ g.2.1 4 (mCe M)) := by rw [ew2]; exact fU_k (fw_new_ne hca nq1) hca
                    have h6 : w2 (aHi A) = some (.inr (0, [.ref (aHa A), .int (iZ (hTi (mHi M))), .int (iZ (hId (mHi M))), .int (iZ (hSw (mHi M))), .int (iZ (hLr (mHi M))), .int (iZ (hLn (mHi M)))])) := by rw [ew2]; exact fU_k (fw_new_ne hhi nq1) hhi
                    have h7 : w2 (aHa A) = some (aZ g.2.1 64 (hOf (mHi M))) := by rw [ew2]; exact fU_k (fw_new_ne hha nq1) hha
                    have h8 : w2 (aTk A t) = some (.inr (3, [.int (iZ (sPer (mTs M t))), .int (iZ (sCst (mTs M t))), .int (iZ (sDdl (mTs M t))), .int (iZ (sPri (mTs M t))), .int (bZ (sSpo (mTs M t))), .ref (aSl A t), .ref (aJq A t), .int (iZ (dNxt (mTd M t)))])) := by rw [ew2]; exact fU_k (fw_new_ne ktt nq1) ktt
                    have h9 : w2 (aSl A t) = some (.inr (6, [.int (iZ (aMs A t)), .ref (aSe A t), .int (iZ ((mNs M t : Int)))])) := by rw [ew2]; exact fU_k (fw_new_ne kslt nq1) kslt
                    have h10 : w2 (aJq A t) = some (.inr (1, [.ref (aRa A t), .int (iZ (dFr (mTd M t))), .int (iZ (dNd (mTd M t))), .int (iZ (dUf (mTd M t))), .int (iZ (dRl (mTd M t))), .int (iZ (dLr (mTd M t))), .int (iZ (dDl (mTd M t))), .int (iZ (dGr (mTd M t)))])) := by rw [ew2]; exact fU_k (fw_new_ne kjqt nq1) kjqt
                    have h11 : w2 (aRa A t) = some (aZ g.2.1 8 (dRel (mTd M t))) := by rw [ew2]; exact fU_k (fw_new_ne krat nq1) krat
                    have h12 : w2 q1 = some (.inr (2, [.int (iZ 0), .int (iZ 0), .int (iZ 0)])) := by rw [ew2]; exact fU_s _ _ _
                    refine lv_dup hx hb d_Cs_section_122 rfl ?_
                    refine lv_iload_n hx hb d_Cs_section_123 rfl (lv_at hl 3 rfl) ?_
                    refine lv_iload_n hx hb d_Cs_section_124 rfl (lv_at hl 4 rfl) ?_
                    refine lv_iload hx hb d_Cs_section_125 (lv_at hl 5 rfl) ?_
                    refine fw_callv (va_runIN (As := [.int (iZ o1), .int (iZ x1), .int (iZ y1)]) (rest := [.ref q1, .ref (aSl A t)]) ⟨hx, hb, hml, hown, hts⟩ (c_Se_init l g w2 H.size q1 o1 x1 y1 h12) ⟨va_cnB 3 hts (gdT k_Se_init) rfl rfl rfl (hK.2.1 _ n_325) (hts _ t_59) (by decide +kernel) ⟨Nat.le_of_ble_eq_true rfl, Nat.le_of_ble_eq_true rfl⟩, rfl, hts _ t_326⟩ ⟨rwP_blind, rwP_pre hK hT hA hF⟩ rfl rfl hl.1 rfl (lv_room (Nat.le_of_ble_eq_true rfl)) d_Cs_section_127 ⟨by decide, by decide⟩) hF hA (fun w13 H locs hp14 hz hF => ?_)
                    obtain ⟨j1, j2⟩ := hp14
                    have h15 : w13 a = some (.inr (4, [.ref (aTl A), .ref (aCa A), .ref (aHi A), .int (bZ (mSt M))])) := (j2 a (fw_ne h3 h12 (ne_rr (by decide)))).trans h3
                    have h16 : w13 (aTl A) = some (.inr (6, [.int (iZ (aMo A)), .ref (aTe A), .int (iZ ((mN M : Int)))])) := (j2 (aTl A) (fw_ne h4 h12 (ne_rr (by decide)))).trans h4
                    have h17 : w13 (aCa A) = some (aZ g.2.1 4 (mCe M)) := (j2 (aCa A) (fw_ne h5 h12 ne_lr)).trans h5
                    have h18 : w13 (aHi A) = some (.inr (0, [.ref (aHa A), .int (iZ (hTi (mHi M))), .int (iZ (hId (mHi M))), .int (iZ (hSw (mHi M))), .int (iZ (hLr (mHi M))), .int (iZ (hLn (mHi M)))])) := (j2 (aHi A) (fw_ne h6 h12 (ne_rr (by decide)))).trans h6
                    have h19 : w13 (aHa A) = some (aZ g.2.1 64 (hOf (mHi M))) := (j2 (aHa A) (fw_ne h7 h12 ne_lr)).trans h7
                    have h20 : w13 (aTk A t) = some (.inr (3, [.int (iZ (sPer (mTs M t))), .int (iZ (sCst (mTs M t))), .int (iZ (sDdl (mTs M t))), .int (iZ (sPri (mTs M t))), .int (bZ (sSpo (mTs M t))), .ref (aSl A t), .ref (aJq A t), .int (iZ (dNxt (mTd M t)))])) := (j2 (aTk A t) (fw_ne h8 h12 (ne_rr (by decide)))).trans h8
                    have h21 : w13 (aSl A t) = some (.inr (6, [.int (iZ (aMs A t)), .ref (aSe A t), .int (iZ ((mNs M t : Int)))])) := (j2 (aSl A t) (fw_ne h9 h12 (ne_rr (by decide)))).trans h9
                    have h22 : w13 (aJq A t) = some (.inr (1, [.ref (aRa A t), .int (iZ (dFr (mTd M t))), .int (iZ (dNd (mTd M t))), .int (iZ (dUf (mTd M t))), .int (iZ (dRl (mTd M t))), .int (iZ (dLr (mTd M t))), .int (iZ (dDl (mTd M t))), .int (iZ (dGr (mTd M t)))])) := (j2 (aJq A t) (fw_ne h10 h12 (ne_rr (by decide)))).trans h10
                    have h23 : w13 (aRa A t) = some (aZ g.2.1 8 (dRel (mTd M t))) := (j2 (aRa A t) (fw_ne h11 h12 ne_lr)).trans h11
                    rcases Nat.eq_zero_or_pos (mNs M t) with hzz | hzz
                    · have hq0 : w13 (aSl A t) = some (.inr (6, [.int (iZ (aMs A t)), .ref g.2.2.2, .int (iZ 0)])) := by rw [h21, ks0t hzz, hzz]; rfl
                      refine fw_calli (va_runV (As := [.ref q1]) (rest := []) ⟨hx, hb, hml, hown, hts⟩ (c_AL_addF l g w13 H.size (aSl A t) q1 (aMs A t) 2 [.int (iZ o1), .int (iZ x1), .int (iZ y1)] (rSe, fSe, 3) hq0 j1 rfl n_691 (Ne.symm (fw_new_ne kslt nq1))) (cwV 1 hts (gdV k_AL_add t_224 t_225 t_226 t_48) rfl rfl rfl (by decide +kernel) ⟨Nat.le_of_ble_eq_true rfl, Nat.le_of_ble_eq_true rfl⟩) ⟨rwP_blind, fw_recv hK hF.1 hq0 rfl, rwP_pre hK hT hA hF⟩ rfl rfl hl.1 rfl (lv_room (Nat.le_of_ble_eq_true rfl)) d_Cs_section_130 ⟨by decide, by decide⟩) hF hA (fun r26 w24 H locs hp25 hz hF => ?_)
                      obtain ⟨q27, m1, m2, m3, m4⟩ := hp25
                      have h28 : w24 a = some (.inr (4, [.ref (aTl A), .ref (aCa A), .ref (aHi A), .int (bZ (mSt M))])) := (m4 a (fw_ne h15 hq0 (ne_rr (by decide))) (fw_new_ne h15 m1)).trans h15
                      have h29 : w24 (aTl A) = some (.inr (6, [.int (iZ (aMo A)), .ref (aTe A), .int (iZ ((mN M : Int)))])) := (m4 (aTl A) (Ne.symm (hC.d2 t htn).1) (fw_new_ne h16 m1)).trans h16
                      have h30 : w24 (aCa A) = some (aZ g.2.1 4 (mCe M)) := (m4 (aCa A) (fw_ne h17 hq0 ne_lr) (fw_new_ne h17 m1)).trans h17
                      have h31 : w24 (aHi A) = some (.inr (0, [.ref (aHa A), .int (iZ (hTi (mHi M))), .int (iZ (hId (mHi M))), .int (iZ (hSw (mHi M))), .int (iZ (hLr (mHi M))), .int (iZ (hLn (mHi M)))])) := (m4 (aHi A) (fw_ne h18 hq0 (ne_rr (by decide))) (fw_new_ne h18 m1)).trans h18
                      have h32 : w24 (aHa A) = some (aZ g.2.1 64 (hOf (mHi M))) := (m4 (aHa A) (fw_ne h19 hq0 ne_lr) (fw_new_ne h19 m1)).trans h19
                      have h33 : w24 (aTk A t) = some (.inr (3, [.int (iZ (sPer (mTs M t))), .int (iZ (sCst (mTs M t))), .int (iZ (sDdl (mTs M t))), .int (iZ (sPri (mTs M t))), .int (bZ (sSpo (mTs M t))), .ref (aSl A t), .ref (aJq A t), .int (iZ (dNxt (mTd M t)))])) := (m4 (aTk A t) (fw_ne h20 hq0 (ne_rr (by decide))) (fw_new_ne h20 m1)).trans h20
                      have h34 : w24 (aJq A t) = some (.inr (1, [.ref (aRa A t), .int (iZ (dFr (mTd M t))), .int (iZ (dNd (mTd M t))), .int (iZ (dUf (mTd M t))), .int (iZ (dRl (mTd M t))), .int (iZ (dLr (mTd M t))), .int (iZ (dDl (mTd M t))), .int (iZ (dGr (mTd M t)))])) := (m4 (aJq A t) (fw_ne h22 hq0 (ne_rr (by decide))) (fw_new_ne h22 m1)).trans h22
                      have h35 : w24 (aRa A t) = some (aZ g.2.1 8 (dRel (mTd M t))) := (m4 (aRa A t) (fw_ne h23 hq0 ne_lr) (fw_new_ne h23 m1)).trans h23
                      have h36 : w24 q1 = some (.inr (2, [.int (iZ o1), .int (iZ x1), .int (iZ y1)])) := (m4 q1 (fw_ne j1 hq0 (ne_rr (by decide))) (fw_new_ne j1 m1)).trans j1
                      have n37 : w2 q27 = none := by
                        have z38 : q27 ≠ q1 := fun y => by rw [y, j1] at m1; cases m1
                        rw [← j2 q27 z38]; exact m1
                      have n39 : w q27 = none := fU_none (by rw [← ew2]; exact n37)
                      refine lv_pop hx hb d_Cs_section_133 rfl ?_
                      refine lv_iconst (v := iZ 0) hx hb d_Cs_section_134 rfl ?_
                      have hoff : ∀ q, q ≠ aSl A t → q ≠ q27 → q ≠ q1 → w24 q = w q := (fun q x0 x1 x2 => by rw [m4 q x0 x1, j2 q x2, ew2, fU_n x2])
                      exact rw_iret hx hb hr hlocks d_Cs_section_135 (by omega) (by omega) hF ⟨congrArg iZ e0.symm, ⟨_, (by rw [scM, if_pos e0]; exact hC.addSec htn (x := (o1, x1, y1)) (by rw [m2, hzz]; rfl) m3 h36 (by rw [hzz]; exact va_up_s _ _ _) (fun j hj => absurd hj (by omega)) nq1 (Or.inr n39) hoff), (by rw [scM, if_pos e0]; exact hO.addSec htn (Or.inr n39))⟩, (fun y hy hn => hoff y (own_ne hy (hO.2.2.2.2.2.2 t htn).2.1) (fun e => hn (e ▸ n39)) (fun e => hn (e ▸ nq1)))⟩
                    · have hte := kset hzz
                      have hte2 : w13 (aSe A t) = some (aQ g.2.2.1 10 (aQs A t)) := by rw [j2 (aSe A t) (fw_new_ne hte nq1), ew2, fU_n (fw_new_ne hte nq1)]; exact hte
                      refine fw_calli (va_runV (As := [.ref q1]) (rest := []) ⟨hx, hb, hml, hown, hts⟩ (c_AL_addR l g w13 H.size (aSl A t) q1 (aSe A t) (aMs A t) (mNs M t) (aQs A t) 2 [.int (iZ o1), .int (iZ x1), .int (iZ y1)] (rSe, fSe, 3) h21 j1 rfl n_691 (Ne.symm (fw_new_ne kslt nq1)) hte2 (by omega)) (cwV 1 hts (gdV k_AL_add t_224 t_225 t_226 t_48) rfl rfl rfl (by decide +kernel) ⟨Nat.le_of_ble_eq_true rfl, Nat.le_of_ble_eq_true rfl⟩) ⟨rwP_blind, fw_recv hK hF.1 h21 rfl, rwP_pre hK hT hA hF⟩ rfl rfl hl.1 rfl (lv_room (Nat.le_of_ble_eq_true rfl)) d_Cs_section_130 ⟨by decide, by decide⟩) hF hA (fun r42 w40 H locs hp41 hz hF => ?_)
                      obtain ⟨m2, m3, m4⟩ := hp41
                      have h43 : w40 a = some (.inr (4, [.ref (aTl A), .ref (aCa A), .ref (aHi A), .int (bZ (mSt M))])) := (m4 a (fw_ne h15 h21 (ne_rr (by decide))) (fw_ne h15 hte2 ne_rl)).trans h15
                      have h44 : w40 (aTl A) = some (.inr (6, [.int (iZ (aMo A)), .ref (aTe A), .int (iZ ((mN M : Int)))])) := (m4 (aTl A) (Ne.symm (hC.d2 t htn).1) (fw_ne h16 hte2 ne_rl)).trans h16
                      have h45 : w40 (aCa A) = some (aZ g.2.1 4 (mCe M)) := (m4 (aCa A) (fw_ne h17 h21 ne_lr) (fw_ne h17 hte2 (ne_ll (by decide)))).trans h17
                      have h46 : w40 (aHi A) = some (.inr (0, [.ref (aHa A), .int (iZ (hTi (mHi M))), .int (iZ (hId (mHi M))), .int (iZ (hSw (mHi M))), .int (iZ (hLr (mHi M))), .int (iZ (hLn (mHi M)))])) := (m4 (aHi A) (fw_ne h18 h21 (ne_rr (by decide))) (fw_ne h18 hte2 ne_rl)).trans h18
                      have h47 : w40 (aHa A) = some (aZ g.2.1 64 (hOf (mHi M))) := (m4 (aHa A) (fw_ne h19 h21 ne_lr) (fw_ne h19 hte2 (ne_ll (by decide)))).trans h19
                      have h48 : w40 (aTk A t) = some (.inr (3, [.int (iZ (sPer (mTs M t))), .int (iZ (sCst (mTs M t))), .int (iZ (sDdl (mTs M t))), .int (iZ (sPri (mTs M t))), .int (bZ (sSpo (mTs M t))), .ref (aSl A t), .ref (aJq A t), .int (iZ (dNxt (mTd M t)))])) := (m4 (aTk A t) (fw_ne h20 h21 (ne_rr (by decide))) (fw_ne h20 hte2 ne_rl)).trans h20
                      have h49 : w40 (aJq A t) = some (.inr (1, [.ref (aRa A t), .int (iZ (dFr (mTd M t))), .int (iZ (dNd (mTd M t))), .int (iZ (dUf (mTd M t))), .int (iZ (dRl (mTd M t))), .int (iZ (dLr (mTd M t))), .int (iZ (dDl (mTd M t))), .int (iZ (dGr (mTd M t)))])) := (m4 (aJq A t) (fw_ne h22 h21 (ne_rr (by decide))) (fw_ne h22 hte2 ne_rl)).trans h22
                      have h50 : w40 (aRa A t) = some (aZ g.2.1 8 (dRel (mTd M t))) := (m4 (aRa A t) (fw_ne h23 h21 ne_lr) (fw_ne h23 hte2 (ne_ll (by decide)))).trans h23
                      have h51 : w40 q1 = some (.inr (2, [.int (iZ o1), .int (iZ x1), .int (iZ y1)])) := (m4 q1 (fw_ne j1 h21 (ne_rr (by decide))) (fw_ne j1 hte2 ne_rl)).trans j1
                      refine lv_pop hx hb d_Cs_section_133 rfl ?_
                      refine lv_iconst (v := iZ 0) hx hb d_Cs_section_134 rfl ?_
                      have hoff : ∀ q, q ≠ aSl A t → q ≠ aSe A t → q ≠ q1 → w40 q = w q := (fun q x0 x1 x2 => by rw [m4 q x0 x1, j2 q x2, ew2, fU_n x2])
                      exact rw_iret hx hb hr hlocks d_Cs_section_135 (by omega) (by omega) hF ⟨congrArg iZ e0.symm, ⟨_, (by rw [scM, if_pos e0]; exact hC.addSec htn (x := (o1, x1, y1)) m2 m3 h51 (va_up_s _ _ _) (fun j hj => (va_up_n _ _ (Nat.ne_of_lt hj)).trans (kqft j hj)) nq1 (Or.inl ⟨hzz, rfl⟩) hoff), (by rw [scM, if_pos e0]; exact hO.addSec htn (Or.inl ⟨hzz, rfl⟩))⟩, (fun y hy hn => hoff y (own_ne hy (hO.2.2.2.2.2.2 t htn).2.1) (own_ne hy ((hO.2.2.2.2.2.2 t htn).2.2.2.2 hzz)) (fun e => hn (e ▸ nq1)))⟩
                  · refine lv_bipush (v := iZ (-2)) hx hb d_Cs_section_111 (by decide) ?_
                    exact rw_iret hx hb hr hlocks d_Cs_section_113 (by omega) (by omega) hF ⟨congrArg iZ ((by rw [scR, if_neg nz1, Int.toNat_natCast, if_neg nz2, if_pos (by omega)] : scR M (t : Int) o1 x1 y1 = -2)).symm, ⟨A, (by rw [scM, if_neg (by rw [(by rw [scR, if_neg nz1, Int.toNat_natCast, if_neg nz2, if_pos (by omega)] : scR M (t : Int) o1 x1 y1 = -2)]; decide)]; exact ⟨hC, hO.grow⟩)⟩, fun q _ _ => rfl⟩
                · refine lv_iconst (v := iZ (-1)) hx hb d_Cs_section_97 rfl ?_
                  exact rw_iret hx hb hr hlocks d_Cs_section_98 (by omega) (by omega) hF ⟨congrArg iZ ((by rw [scR, if_neg nz1, Int.toNat_natCast, if_pos (Or.inr (Or.inr c94))] : scR M (t : Int) o1 x1 y1 = -1)).symm, ⟨A, (by rw [scM, if_neg (by rw [(by rw [scR, if_neg nz1, Int.toNat_natCast, if_pos (Or.inr (Or.inr c94))] : scR M (t : Int) o1 x1 y1 = -1)]; decide)]; exact ⟨hC, hO.grow⟩)⟩, fun q _ _ => rfl⟩
          · refine lv_iconst (v := iZ (-1)) hx hb d_Cs_section_43 rfl ?_
            exact rw_iret hx hb hr hlocks d_Cs_section_44 (by omega) (by omega) hF ⟨congrArg iZ ((by rw [scR, if_pos (Or.inr (Or.inr (Or.inr (Or.inr (of_decide_eq_true c40)))))] : scR M v o1 x1 y1 = -1)).symm, ⟨A, (by rw [scM, if_neg (by rw [(by rw [scR, if_pos (Or.inr (Or.inr (Or.inr (Or.inr (of_decide_eq_true c40)))))] : scR M v o1 x1 y1 = -1)]; decide)]; exact ⟨hC, hO.grow⟩)⟩, fun q _ _ => rfl⟩
