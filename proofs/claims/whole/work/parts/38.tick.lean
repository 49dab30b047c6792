set_option maxHeartbeats 4000000 in
set_option maxRecDepth 100000 in
theorem c_Cs_pass (l : Launch) (g : GG) (w : fw) (sz : Nat) (a : Nat) (A : ADT) (M0 : CsM) (O : Nat → Prop) (tb : Int) (hC : CsP g w a A M0) (hI : CsI M0 tb) (hO : CsO O a A M0) (hlt : hTi (mHi M0) < tb) (hns : stM M0 = false) : RWv l y_Cs_passUnit w_Cs_passUnit ({ frames := 7, cells := 0, slots := 0, locals := 158 }) g w sz [.ref a] 0 0 ((fun w1 => CsP g w1 a A (puM M0) ∧ ∀ q, ¬ O q → w1 q = w q)) := by
  refine rw_go (by decide) rfl (Nat.le_of_ble_eq_true rfl) ?_
  intro p e s m below meth c hx hb hr hml hown hts hlocks hin hsz hK hT hA hF ls hl
  subst hsz
  have hown : s.vm.findClass rCs = some m.cls := hown
  have hl : lv_has ls 3 [(0, .ref a)] := hl
  refine lv_iconst (v := iZ 0) hx hb d_Cs_passUnit_0 rfl ?_
  refine lv_istore_n (lv' := [(1, .int (iZ 0)), (0, .ref a)]) hx hb d_Cs_passUnit_1 rfl hl (by decide) rfl (fun ls hl => ?_)
  have lp : ∀ (f i : Nat) (M : CsM) (w2 : fw) (H : Heap) (locs : List Loc), i + f = mN M0 → M = rlI M0 i → CsP g w2 a A M → CsI M tb → (∀ q, ¬ O q → w2 q = w q) → fW g (fA w s.heap.size) s H locs w2 → ∀ ls : Array Slot, lv_has ls 3 [(1, .int (iZ (i : Int))), (0, .ref a)] → W p l e ({ frames := 7, cells := 0, slots := 0, locals := 158 }) s m ([.ref a] : List Value).toArray below meth c H locs 0 0 (MQ below (va_Qv (fun w1 => CsP g w1 a A (puM M0) ∧ ∀ q, ¬ O q → w1 q = w q) (rwB g w s.heap.size) (fA w s.heap.size)) ([.ref a] : List Value).toArray s 0 0 (fA w s.heap.size)) (F0 m 2 ls []) := by
    intro f
    induction f with
    | zero =>
      intro i M w2 H locs hif eM hC hI hof hF ls hl
      have hN : mN M = mN M0 := by rw [eM]; exact (rlI_same M0 i).1
      have hTs : mTs M = mTs M0 := by rw [eM]; exact (rlI_same M0 i).2.1
      have hHi : mHi M = mHi M0 := by rw [eM]; exact (rlI_same M0 i).2.2.2.2.2.1
      have hTd : mTd M i = mTd M0 i := by rw [eM]; exact rlI_ge M0 i i (Nat.le_refl _)
      have hI0 := hI
      have hc0 := hC.c0
      have htl := hC.tl
      have hca := hC.ca
      have hhi := hC.hi
      have hha := hC.ha
      obtain ⟨itb, in6, iti, ilr, iln, ice, itk⟩ := hI
      refine lv_iload_n hx hb d_Cs_passUnit_2 rfl (lv_at hl 0 rfl) ?_
      refine lv_aload_n hx hb d_Cs_passUnit_3 rfl (lv_at hl 1 rfl) ?_
      refine fw_get (ci := 4) (v := .ref (aTl A)) (C := rCs) (T := fCs) (N := 4) hx hb hts iCs hown hK hF.1 hc0 rfl 0 (by decide) (hts _ t_124) (fun _ h9 => h9) rfl d_Cs_passUnit_4 ?_
      refine fw_ro (r := .int (iZ ((mN M : Int)))) (va_runV (As := []) (rest := [.int (iZ ((i : Int)))]) ⟨hx, hb, hml, hown, hts⟩ (c_AL_size l g w2 (aTl A) (aTe A) (aMo A) ((mN M : Int)) htl) (cwV 0 hts (gdV k_AL_size t_144 t_145 t_146 t_48) rfl rfl rfl (by decide +kernel) ⟨Nat.le_of_ble_eq_true rfl, Nat.le_of_ble_eq_true rfl⟩) ⟨roP_blind, fw_recv hK hF.1 htl rfl, roP_pre hK hF.1⟩ rfl rfl hl.1 rfl (lv_room (Nat.le_of_ble_eq_true rfl)) d_Cs_passUnit_7 ⟨by decide, by decide⟩) ?_
      refine zz_icmp_ge (tgt := 49) hx hb d_Cs_passUnit_10 (by decide) ⟨by omega, by omega⟩ ⟨by omega, by omega⟩ (fun c10 => ?_) (fun c10 => ?_)
      · refine lv_aload_n hx hb d_Cs_passUnit_49 rfl (lv_at hl 1 rfl) ?_
        refine fw_ro (r := .int (iZ (chM M))) (va_runV (As := []) (rest := []) ⟨hx, hb, hml, hown, hts⟩ (c_Cs_choose l g w2 a A M tb hC hI0) (cwV 0 hts (gdV k_Cs_chooseTask t_389 t_391 t_14 t_45) rfl rfl rfl (by decide +kernel) ⟨Nat.le_of_ble_eq_true rfl, Nat.le_of_ble_eq_true rfl⟩) ⟨roP_blind, fw_recv hK hF.1 hc0 rfl, roP_pre hK hF.1⟩ rfl rfl hl.1 rfl (lv_room (Nat.le_of_ble_eq_true rfl)) d_Cs_passUnit_50 ⟨by decide, by decide⟩) ?_
        have hch := chM_spec M
        generalize ex : chM M = x at hch ⊢
        have hxr : -3 ≤ x ∧ x ≤ 6 := by rcases hch with z | ⟨b, z1, z2, z3⟩ <;> omega
        refine lv_istore_n (lv' := [(1, .int (iZ x)), (0, .ref a)]) hx hb d_Cs_passUnit_53 rfl hl (by decide) rfl (fun ls hl => ?_)
        refine lv_aload_n hx hb d_Cs_passUnit_54 rfl (lv_at hl 1 rfl) ?_
        refine fw_get (ci := 4) (v := .ref (aHi A)) (C := rCs) (T := fCs) (N := 4) hx hb hts iCs hown hK hF.1 hc0 rfl 2 (by decide) (hts _ t_126) (fun _ h9 => h9) rfl d_Cs_passUnit_55 ?_
        refine lv_iload_n hx hb d_Cs_passUnit_58 rfl (lv_at hl 0 rfl) ?_
        refine fw_callv (va_runVN (As := [.int (iZ x)]) (rest := []) ⟨hx, hb, hml, hown, hts⟩ (c_Hi_pass l g w2 H.size (aHi A) (aHa A) (hTi (mHi M)) (hId (mHi M)) (hSw (mHi M)) (hLr (mHi M)) (hLn (mHi M)) (hOf (mHi M)) x hhi hha ⟨by omega, by omega⟩ iln hxr) ⟨va_cnB 1 hts (gdT k_Hi_pass) rfl rfl rfl (hK.2.1 _ n_417) (hts _ t_49) (by decide +kernel) ⟨Nat.le_of_ble_eq_true rfl, Nat.le_of_ble_eq_true rfl⟩, hts _ t_419, hts _ t_21⟩ ⟨rwP_blind, fw_recv hK hF.1 hhi rfl, rwP_pre hK hT hA hF⟩ rfl rfl hl.1 rfl (lv_room (Nat.le_of_ble_eq_true rfl)) d_Cs_passUnit_59 ⟨by decide, by decide⟩) hF hA (fun w1 H locs hp2 hz hF => ?_)
        obtain ⟨k1, k2, k3⟩ := hp2
        have hC2 := hC.updH (x := hiP (mHi M) x) k1 k2 k3
        have hI2 := CsI_setHi hI0 (x := x) (by rw [hHi]; exact hlt) hxr
        have ei : i = mN M0 := by omega
        have hq : setHi M (hiP (mHi M) x) = puA M0 := by rw [puA, ← ei, ← eM, ex]
        have hch2 : x = -3 ∨ ∃ b : Nat, b < mN (setHi M (hiP (mHi M) x)) ∧ x = (b : Int) ∧ dNd (mTd (setHi M (hiP (mHi M) x)) b) ≠ 0 := hch
        have ex2 : chM (rlI M0 (mN M0)) = x := by rw [← ei, ← eM]; exact ex
        have hof2 : ∀ q, ¬ O q → w1 q = w q := fun q hq => (k3 q (own_ne hq hO.2.2.2.1) (own_ne hq hO.2.2.2.2.1)).trans (hof q hq)
        rw [hq] at hC2 hI2 hch2
        have hNA : mN (puA M0) = mN M0 := (rlI_same M0 (mN M0)).1
        obtain ⟨M, eM2⟩ : ∃ z : CsM, z = puA M0 := ⟨_, rfl⟩
        rw [← eM2] at hC2 hI2 hch2 hNA
        have hC := hC2
        have hI := hI2
        have hI0 := hI
        have hc0 := hC.c0
        have htl := hC.tl
        have hca := hC.ca
        have hhi := hC.hi
        have hha := hC.ha
        obtain ⟨itb, in6, iti, ilr, iln, ice, itk⟩ := hI
        refine lv_iload_n hx hb d_Cs_passUnit_62 rfl (lv_at hl 0 rfl) ?_
        refine lv_bipush (v := iZ (-3)) hx hb d_Cs_passUnit_63 (by decide) ?_
        refine zz_icmp_eq (tgt := 89) hx hb d_Cs_passUnit_65 (by decide) ⟨by omega, by omega⟩ ⟨by omega, by omega⟩ (fun c65 => ?_) (fun c65 => ?_)
        · exact rw_vret hx hb hr hlocks d_Cs_passUnit_89 (by omega) (by omega) hF ⟨(by rw [puM, ex2, if_pos c65, ← eM2]; exact hC), hof2⟩
        · obtain ⟨b, hbn, eb, hbd⟩ := hch2.resolve_left c65
          subst eb
          refine lv_aload_n hx hb d_Cs_passUnit_68 rfl (lv_at hl 1 rfl) ?_
          refine fw_get (ci := 4) (v := .ref (aTl A)) (C := rCs) (T := fCs) (N := 4) hx hb hts iCs hown hK hF.1 hc0 rfl 0 (by decide) (hts _ t_124) (fun _ h9 => h9) rfl d_Cs_passUnit_69 ?_
          refine lv_iload_n hx hb d_Cs_passUnit_72 rfl (lv_at hl 0 rfl) ?_
          refine fw_ro (r := .ref (aTk A b)) (va_runV (As := [.int (iZ ((b : Int)))]) (rest := []) ⟨hx, hb, hml, hown, hts⟩ (c_AL_get l g w1 (aTl A) (aTe A) (aMo A) (mN M) (aQf A) b (aTk A b) htl (hC.te (by omega)) (by omega) (by omega) (hC.qf b (by omega))) (cwV 1 hts (gdV k_AL_get t_289 t_290 t_291 t_48) rfl rfl rfl (by decide +kernel) ⟨Nat.le_of_ble_eq_true rfl, Nat.le_of_ble_eq_true rfl⟩) ⟨roP_blind, fw_recv hK hF.1 htl rfl, roP_pre hK hF.1⟩ rfl rfl hl.1 rfl (lv_room (Nat.le_of_ble_eq_true rfl)) d_Cs_passUnit_73 ⟨by decide, by decide⟩) ?_
          obtain ⟨ktb, kslb, ks0b, kseb, kqfb, ksab, kjqb, krab⟩ := hC.tk b (by omega)
          obtain ⟨rperb, rcstb, rddlb, rprib, rnsb, rSb, rnxb, rfrb, rndb, rufb, rrlb, rlrb, rgrb, rreb, rlxb⟩ := itk b (by omega)
          refine fw_cast (T := fTa) (N := 8) hx hb hown (hts _ t_148) hK hF.1 ktb rfl d_Cs_passUnit_76 ?_
          refine lv_aload_n hx hb d_Cs_passUnit_79 rfl (lv_at hl 1 rfl) ?_
          refine fw_get (ci := 4) (v := .ref (aHi A)) (C := rCs) (T := fCs) (N := 4) hx hb hts iCs hown hK hF.1 hc0 rfl 2 (by decide) (hts _ t_126) (fun _ h9 => h9) rfl d_Cs_passUnit_80 ?_
          refine fw_getN (ci := 0) (v := .int (iZ (hTi (mHi M)))) (C := rHi) (T := fHi) (N := 6) (index := 96) (ref := "CeilingScheduler$History") (host := "CeilingScheduler") hx hb hts iHi hown hK hF.1 hhi rfl 1 (by decide) n_102 (fun _ h9 => h9) rfl d_Cs_passUnit_83 ?_
          refine fw_callv (va_runVN (As := [.int (iZ (hTi (mHi M)))]) (rest := []) ⟨hx, hb, hml, hown, hts⟩ (c_Ta_unit l g w1 H.size (aTk A b) (aSl A b) (aJq A b) (aRa A b) (sPer (mTs M b)) (sCst (mTs M b)) (sDdl (mTs M b)) (sPri (mTs M b)) (dNxt (mTd M b)) (sSpo (mTs M b)) (dFr (mTd M b)) (dNd (mTd M b)) (dUf (mTd M b)) (dRl (mTd M b)) (dLr (mTd M b)) (dDl (mTd M b)) (dGr (mTd M b)) (dRel (mTd M b)) (hTi (mHi M)) ktb kjqb krab rfrb rndb ⟨by omega, by omega⟩ rcstb rddlb ⟨by omega, by omega⟩ ⟨by omega, by omega⟩ ⟨(rreb _).1, by have := (rreb (dFr (mTd M b)).toNat).2; omega⟩) ⟨va_cnB 1 hts (gdT k_Ta_doUnit) rfl rfl rfl (hK.2.1 _ n_424) (hts _ t_51) (by decide +kernel) ⟨Nat.le_of_ble_eq_true rfl, Nat.le_of_ble_eq_true rfl⟩, hts _ t_426, hts _ t_22⟩ ⟨rwP_blind, fw_recv hK hF.1 ktb rfl, rwP_pre hK hT hA hF⟩ rfl rfl hl.1 rfl (lv_room (Nat.le_of_ble_eq_true rfl)) d_Cs_passUnit_86 ⟨by decide, by decide⟩) hF hA (fun w3 H locs hp4 hz hF => ?_)
          obtain ⟨k1, k2, k3⟩ := hp4
          have kT := (k3 (aTk A b) (fw_ne ktb kjqb (ne_rr (by decide))) (fw_ne ktb krab ne_rl)).trans ktb
          have hC3 := hC.updD hbn (d := duD (mTs M b) (mTd M b) (hTi (mHi M))) kT k1 k2 (fun q _ x2 x3 => k3 q x2 x3)
          exact rw_vret hx hb hr hlocks d_Cs_passUnit_89 (by omega) (by omega) hF ⟨(by rw [puM, ex2, if_neg c65, ← eM2]; exact hC3), fun q hq => (k3 q (own_ne hq (hO.2.2.2.2.2.2 b (by omega)).2.2.1) (own_ne hq (hO.2.2.2.2.2.2 b (by omega)).2.2.2.1)).trans (hof2 q hq)⟩
      · exfalso; omega
    | succ f ih =>
      intro i M w2 H locs hif eM hC hI hof hF ls hl
      have hN : mN M = mN M0 := by rw [eM]; exact (rlI_same M0 i).1
      have hTs : mTs M = mTs M0 := by rw [eM]; exact (rlI_same M0 i).2.1
      have hHi : mHi M = mHi M0 := by rw [eM]; exact (rlI_same M0 i).2.2.2.2.2.1
      have hTd : mTd M i = mTd M0 i := by rw [eM]; exact rlI_ge M0 i i (Nat.le_refl _)
      have hI0 := hI
      have hc0 := hC.c0
      have htl := hC.tl
      have hca := hC.ca
      have hhi := hC.hi
      have hha := hC.ha
      obtain ⟨itb, in6, iti, ilr, iln, ice, itk⟩ := hI
      refine lv_iload_n hx hb d_Cs_passUnit_2 rfl (lv_at hl 0 rfl) ?_
      refine lv_aload_n hx hb d_Cs_passUnit_3 rfl (lv_at hl 1 rfl) ?_
      refine fw_get (ci := 4) (v := .ref (aTl A)) (C := rCs) (T := fCs) (N := 4) hx hb hts iCs hown hK hF.1 hc0 rfl 0 (by decide) (hts _ t_124) (fun _ h9 => h9) rfl d_Cs_passUnit_4 ?_
      refine fw_ro (r := .int (iZ ((mN M : Int)))) (va_runV (As := []) (rest := [.int (iZ ((i : Int)))]) ⟨hx, hb, hml, hown, hts⟩ (c_AL_size l g w2 (aTl A) (aTe A) (aMo A) ((mN M : Int)) htl) (cwV 0 hts (gdV k_AL_size t_144 t_145 t_146 t_48) rfl rfl rfl (by decide +kernel) ⟨Nat.le_of_ble_eq_true rfl, Nat.le_of_ble_eq_true rfl⟩) ⟨roP_blind, fw_recv hK hF.1 htl rfl, roP_pre hK hF.1⟩ rfl rfl hl.1 rfl (lv_room (Nat.le_of_ble_eq_true rfl)) d_Cs_passUnit_7 ⟨by decide, by decide⟩) ?_
      refine zz_icmp_ge (tgt := 49) hx hb d_Cs_passUnit_10 (by decide) ⟨by omega, by omega⟩ ⟨by omega, by omega⟩ (fun c10 => ?_) (fun c10 => ?_)
      · exfalso; omega
      · refine lv_aload_n hx hb d_Cs_passUnit_13 rfl (lv_at hl 1 rfl) ?_
        refine fw_get (ci := 4) (v := .ref (aTl A)) (C := rCs) (T := fCs) (N := 4) hx hb hts iCs hown hK hF.1 hc0 rfl 0 (by decide) (hts _ t_124) (fun _ h9 => h9) rfl d_Cs_passUnit_14 ?_
        refine lv_iload_n hx hb d_Cs_passUnit_17 rfl (lv_at hl 0 rfl) ?_
        refine fw_ro (r := .ref (aTk A i)) (va_runV (As := [.int (iZ ((i : Int)))]) (rest := []) ⟨hx, hb, hml, hown, hts⟩ (c_AL_get l g w2 (aTl A) (aTe A) (aMo A) (mN M) (aQf A) i (aTk A i) htl (hC.te (by omega)) (by omega) (by omega) (hC.qf i (by omega))) (cwV 1 hts (gdV k_AL_get t_289 t_290 t_291 t_48) rfl rfl rfl (by decide +kernel) ⟨Nat.le_of_ble_eq_true rfl, Nat.le_of_ble_eq_true rfl⟩) ⟨roP_blind, fw_recv hK hF.1 htl rfl, roP_pre hK hF.1⟩ rfl rfl hl.1 rfl (lv_room (Nat.le_of_ble_eq_true rfl)) d_Cs_passUnit_18 ⟨by decide, by decide⟩) ?_
        obtain ⟨kti, ksli, ks0i, ksei, kqfi, ksai, kjqi, krai⟩ := hC.tk i (by omega)
        obtain ⟨rperi, rcsti, rddli, rprii, rnsi, rSi, rnxi, rfri, rndi, rufi, rrli, rlri, rgri, rrei, rlxi⟩ := itk i (by omega)
        refine fw_cast (T := fTa) (N := 8) hx hb hown (hts _ t_148) hK hF.1 kti rfl d_Cs_passUnit_21 ?_
        refine lv_astore_n (lv' := [(2, .ref (aTk A i)), (1, .int (iZ ((i : Int)))), (0, .ref a)]) hx hb d_Cs_passUnit_24 rfl hl (by decide) rfl (fun ls hl => ?_)
        refine lv_aload_n hx hb d_Cs_passUnit_25 rfl (lv_at hl 0 rfl) ?_
        refine lv_aload_n hx hb d_Cs_passUnit_26 rfl (lv_at hl 2 rfl) ?_
        refine fw_get (ci := 4) (v := .ref (aHi A)) (C := rCs) (T := fCs) (N := 4) hx hb hts iCs hown hK hF.1 hc0 rfl 2 (by decide) (hts _ t_126) (fun _ h9 => h9) rfl d_Cs_passUnit_27 ?_
        refine fw_getN (ci := 0) (v := .int (iZ (hTi (mHi M)))) (C := rHi) (T := fHi) (N := 6) (index := 96) (ref := "CeilingScheduler$History") (host := "CeilingScheduler") hx hb hts iHi hown hK hF.1 hhi rfl 1 (by decide) n_102 (fun _ h9 => h9) rfl d_Cs_passUnit_30 ?_
        refine fw_ro (r := .int (bZ (decide (sSpo (mTs M i) = false ∧ dNxt (mTd M i) = hTi (mHi M))))) (va_runVN (As := [.int (iZ (hTi (mHi M)))]) (rest := []) ⟨hx, hb, hml, hown, hts⟩ (c_Ta_due l g w2 (aTk A i) (aSl A i) (aJq A i) (sPer (mTs M i)) (sCst (mTs M i)) (sDdl (mTs M i)) (sPri (mTs M i)) (dNxt (mTd M i)) (sSpo (mTs M i)) (hTi (mHi M)) kti ⟨by omega, by omega⟩ ⟨by omega, by omega⟩) ⟨va_cnB 1 hts (gdT k_Ta_isDueAt) rfl rfl rfl (hK.2.1 _ n_376) (hts _ t_51) (by decide +kernel) ⟨Nat.le_of_ble_eq_true rfl, Nat.le_of_ble_eq_true rfl⟩, hts _ t_378, hts _ t_11⟩ ⟨roP_blind, fw_recv hK hF.1 kti rfl, roP_pre hK hF.1⟩ rfl rfl hl.1 rfl (lv_room (Nat.le_of_ble_eq_true rfl)) d_Cs_passUnit_33 ⟨by decide, by decide⟩) ?_
        refine zb_if_eq (tgt := 43) hx hb d_Cs_passUnit_36 (by decide) (fun c36 => ?_) (fun c36 => ?_)
        · refine lv_iinc (v := iZ (((i : Int)) + 1)) (lv' := [(1, .int (iZ (((i : Int)) + 1))), (2, .ref (aTk A i)), (0, .ref a)]) hx hb d_Cs_passUnit_43 hl (k := 1) rfl (iZ_add _ _) (by decide) rfl (fun ls hl => ?_)
          refine lv_goto (tgt := 2) hx hb d_Cs_passUnit_46 (by decide) ?_
          exact ih (i + 1) M w2 H locs (by omega) (by rw [rlI, ← eM, rlS, if_neg (of_decide_eq_false c36)]) hC hI0 hof hF ls (lv_sub hl [0, 2] rfl)
        · have hin : i < mN M := by omega
          refine lv_aload_n hx hb d_Cs_passUnit_39 rfl (lv_at hl 0 rfl) ?_
          refine fw_callv (va_runVN (As := []) (rest := []) ⟨hx, hb, hml, hown, hts⟩ (c_Ta_release l g w2 H.size (aTk A i) (aSl A i) (aJq A i) (aRa A i) (sPer (mTs M i)) (sCst (mTs M i)) (sDdl (mTs M i)) (sPri (mTs M i)) (dNxt (mTd M i)) (sSpo (mTs M i)) (dFr (mTd M i)) (dNd (mTd M i)) (dUf (mTd M i)) (dRl (mTd M i)) (dLr (mTd M i)) (dDl (mTd M i)) (dGr (mTd M i)) (dRel (mTd M i)) kti kjqi krai rfri rndi) ⟨va_cnB 0 hts (gdT k_Ta_releasePeriodicJob) rfl rfl rfl (hK.2.1 _ n_384) (hts _ t_51) (by decide +kernel) ⟨Nat.le_of_ble_eq_true rfl, Nat.le_of_ble_eq_true rfl⟩, hts _ t_386, hts _ t_13⟩ ⟨rwP_blind, fw_recv hK hF.1 kti rfl, rwP_pre hK hT hA hF⟩ rfl rfl hl.1 rfl (lv_room (Nat.le_of_ble_eq_true rfl)) d_Cs_passUnit_40 ⟨by decide, by decide⟩) hF hA (fun w5 H locs hp6 hz hF => ?_)
          obtain ⟨k1, k2, k3, k4⟩ := hp6
          have hC1 := hC.updD hin (d := rlD (mTd M i) (dNxt (mTd M i) + sPer (mTs M i)) (dNxt (mTd M i))) k1 k2 k3 k4
          refine lv_iinc (v := iZ (((i : Int)) + 1)) (lv' := [(1, .int (iZ (((i : Int)) + 1))), (2, .ref (aTk A i)), (0, .ref a)]) hx hb d_Cs_passUnit_43 hl (k := 1) rfl (iZ_add _ _) (by decide) rfl (fun ls hl => ?_)
          refine lv_goto (tgt := 2) hx hb d_Cs_passUnit_46 (by decide) ?_
          exact ih (i + 1) (updTd M i (rlD (mTd M i) (dNxt (mTd M i) + sPer (mTs M i)) (dNxt (mTd M i)))) w5 H locs (by omega) (by rw [rlI, ← eM, rlS, if_pos (of_decide_eq_true c36)]) hC1 (by have h9 := CsI_rlS hI0 (i := i) (fun _ => by rw [hTs, hHi, hTd]; exact stM_no hns (by omega)); rw [rlS, if_pos (of_decide_eq_true c36)] at h9; exact h9) (fun q hq => (k4 q (own_ne hq (hO.2.2.2.2.2.2 i (by omega)).1) (own_ne hq (hO.2.2.2.2.2.2 i (by omega)).2.2.1) (own_ne hq (hO.2.2.2.2.2.2 i (by omega)).2.2.2.1)).trans (hof q hq)) hF ls (lv_sub hl [0, 2] rfl)
  exact lp (mN M0) 0 M0 w s.heap [] (by omega) rfl hC hI (fun q _ => rfl) hF ls (lv_sub hl [0, 1] rfl)

set_option maxHeartbeats 4000000 in
set_option maxRecDepth 100000 in
theorem c_Cs_tick (l : Launch) (g : GG) (w : fw) (sz : Nat) (a : Nat) (A : ADT) (M0 : CsM) (O : Nat → Prop) (tb : Int) (n : Int) (hC : CsP g w a A M0) (hI : CsI M0 tb) (hO : CsO O a A M0) (hlt : hTi (mHi M0) + 200 ≤ tb) (hr_0 : ir n) : RWi l y_Cs_tick w_Cs_tick ({ frames := 8, cells := 0, slots := 0, locals := 180 }) g w sz [.ref a, .int (iZ n)] 0 0 ((fun rr1 w1 => rr1 = iZ (tkR M0 n) ∧ CsP g w1 a A (tkM M0 n) ∧ ∀ q, ¬ O q → w1 q = w q)) := by
  refine rw_go (by decide) rfl (Nat.le_of_ble_eq_true rfl) ?_
  intro p e s m below meth c hx hb hr hml hown hts hlocks hin hsz hK hT hA hF ls hl
  subst hsz
  have hown : s.vm.findClass rCs = some m.cls := hown
  have hl : lv_has ls 3 [(0, .ref a), (1, .int (iZ n))] := hl
  have hI0 := hI
  have hc0 := hC.c0
  obtain ⟨hr_0a, hr_0b⟩ := hr_0
  refine lv_aload_n hx hb d_Cs_tick_0 rfl (lv_at hl 0 rfl) ?_
  refine fw_get (ci := 4) (v := .int (bZ (mSt M0))) (C := rCs) (T := fCs) (N := 4) hx hb hts iCs hown hK hF.1 hc0 rfl 3 (by decide) (hts _ t_127) (fun _ h9 => h9) rfl d_Cs_tick_1 ?_
  refine zb_if_eq (tgt := 18) hx hb d_Cs_tick_4 (by decide) (fun c4 => ?_) (fun c4 => ?_)
  · refine lv_iconst (v := iZ (-1)) hx hb d_Cs_tick_18 rfl ?_
    exact rw_iret hx hb hr hlocks d_Cs_tick_19 (by omega) (by omega) hF ⟨congrArg iZ (by rw [tkR, if_pos (Or.inl c4)]), (by rw [tkM, if_pos (Or.inl c4)]; exact hC), fun q _ => rfl⟩
  · refine lv_iload_n hx hb d_Cs_tick_7 rfl (lv_at hl 1 rfl) ?_
    refine lv_iconst (v := iZ 1) hx hb d_Cs_tick_8 rfl ?_
    refine lv_sipush (v := iZ 200) hx hb d_Cs_tick_9 (by decide) ?_
    refine fw_ro (r := .int (bZ (decide (n < 1 ∨ 200 < n)))) (va_runS (As := [.int (iZ n), .int (iZ 1), .int (iZ 200)]) (rest := []) ⟨hx, hb, hml, hown, hts⟩ (c_Cs_outside l g w n 1 200 ⟨by omega, by omega⟩ ⟨by omega, by omega⟩ ⟨by omega, by omega⟩) (va_cwS 3 hts (gdS k_Cs_isOutside t_141 t_142 t_45) rfl rfl rfl (by decide +kernel) ⟨Nat.le_of_ble_eq_true rfl, Nat.le_of_ble_eq_true rfl⟩) ⟨roP_blind, roP_pre hK hF.1⟩ rfl rfl hl.1 rfl (lv_room (Nat.le_of_ble_eq_true rfl)) d_Cs_tick_12 ⟨by decide, by decide⟩) ?_
    refine zb_if_eq (tgt := 20) hx hb d_Cs_tick_15 (by decide) (fun c15 => ?_) (fun c15 => ?_)
    · have n15 := of_decide_eq_false c15
      have nz : ¬ (mSt M0 = false ∨ (n < 1 ∨ 200 < n)) := fun q => q.elim (fun z => by rw [c4] at z; cases z) n15
      refine lv_iconst (v := iZ 0) hx hb d_Cs_tick_20 rfl ?_
      refine lv_istore_n (lv' := [(2, .int (iZ 0)), (0, .ref a), (1, .int (iZ n))]) hx hb d_Cs_tick_21 rfl hl (by decide) rfl (fun ls hl => ?_)
      have lp : ∀ (f i : Nat) (M : CsM) (w2 : fw) (H : Heap) (locs : List Loc), ((i + f : Nat) : Int) = n → (tkF n.toNat M0).1 = i + (tkF f M).1 → (tkF n.toNat M0).2 = (tkF f M).2 → mN M = mN M0 → mNs M = mNs M0 → hTi (mHi M) + (f : Int) ≤ tb → CsP g w2 a A M → CsI M tb → (∀ q, ¬ O q → w2 q = w q) → fW g (fA w s.heap.size) s H locs w2 → ∀ ls : Array Slot, lv_has ls 3 [(2, .int (iZ (i : Int))), (0, .ref a), (1, .int (iZ n))] → W p l e ({ frames := 8, cells := 0, slots := 0, locals := 180 }) s m ([.ref a, .int (iZ n)] : List Value).toArray below meth c H locs 0 0 (MQ below (va_Qi (fun rr1 w1 => rr1 = iZ (tkR M0 n) ∧ CsP g w1 a A (tkM M0 n) ∧ ∀ q, ¬ O q → w1 q = w q) (rwB g w s.heap.size) (fA w s.heap.size)) ([.ref a, .int (iZ n)] : List Value).toArray s 0 0 (fA w s.heap.size)) (F0 m 22 ls []) := by
        intro f
        induction f with
        | zero =>
          intro i M w2 H locs hif e1 e2 hN hNs htt hC hI hof hF ls hl
          have hI0 := hI
          have hc0 := hC.c0
          have htl := hC.tl
          have hca := hC.ca
          have hhi := hC.hi
          have hha := hC.ha
          obtain ⟨itb, in6, iti, ilr, iln, ice, itk⟩ := hI
          refine lv_iload_n hx hb d_Cs_tick_22 rfl (lv_at hl 0 rfl) ?_
          refine lv_iload_n hx hb d_Cs_tick_23 rfl (lv_at hl 2 rfl) ?_
          refine zz_icmp_ge (tgt := 44) hx hb d_Cs_tick_24 (by decide) ⟨by omega, by omega⟩ ⟨by omega, by omega⟩ (fun c24 => ?_) (fun c24 => ?_)
          · refine lv_iload_n hx hb d_Cs_tick_44 rfl (lv_at hl 0 rfl) ?_
            refine zz_if_ne (tgt := 53) hx hb d_Cs_tick_45 (by decide) ⟨by omega, by omega⟩ (fun c45 => ?_) (fun c45 => ?_)
            · refine lv_iload_n hx hb d_Cs_tick_53 rfl (lv_at hl 0 rfl) ?_
              have q1 : (tkF n.toNat M0).1 = i := (by rw [e1]; rfl)
              have q2 : (tkF n.toNat M0).2 = M := (by rw [e2]; rfl)
              exact rw_iret hx hb hr hlocks d_Cs_tick_54 (by omega) (by omega) hF ⟨congrArg iZ (by rw [tkR, if_neg nz, q1, if_neg (by omega)]), (by rw [tkM, if_neg nz, q2]; exact hC), hof⟩
            · refine lv_bipush (v := iZ (-2)) hx hb d_Cs_tick_48 (by decide) ?_
              refine lv_goto (tgt := 54) hx hb d_Cs_tick_50 (by decide) ?_
              have q1 : (tkF n.toNat M0).1 = i := (by rw [e1]; rfl)
              have q2 : (tkF n.toNat M0).2 = M := (by rw [e2]; rfl)
              exact rw_iret hx hb hr hlocks d_Cs_tick_54 (by omega) (by omega) hF ⟨congrArg iZ (by rw [tkR, if_neg nz, q1, if_pos (by omega)]), (by rw [tkM, if_neg nz, q2]; exact hC), hof⟩
          · exfalso; omega
        | succ f ih =>
          intro i M w2 H locs hif e1 e2 hN hNs htt hC hI hof hF ls hl
          have hI0 := hI
          have hc0 := hC.c0
          have htl := hC.tl
          have hca := hC.ca
          have hhi := hC.hi
          have hha := hC.ha
          obtain ⟨itb, in6, iti, ilr, iln, ice, itk⟩ := hI
          refine lv_iload_n hx hb d_Cs_tick_22 rfl (lv_at hl 0 rfl) ?_
          refine lv_iload_n hx hb d_Cs_tick_23 rfl (lv_at hl 2 rfl) ?_
          refine zz_icmp_ge (tgt := 44) hx hb d_Cs_tick_24 (by decide) ⟨by omega, by omega⟩ ⟨by omega, by omega⟩ (fun c24 => ?_) (fun c24 => ?_)
          · exfalso; omega
          · refine lv_aload_n hx hb d_Cs_tick_27 rfl (lv_at hl 1 rfl) ?_
            refine fw_ro (r := .int (bZ (stM M))) (va_runV (As := []) (rest := []) ⟨hx, hb, hml, hown, hts⟩ (c_Cs_stop l g w2 a A M tb hC hI0) (cwV 0 hts (gdV k_Cs_isStopped t_372 t_374 t_10 t_45) rfl rfl rfl (by decide +kernel) ⟨Nat.le_of_ble_eq_true rfl, Nat.le_of_ble_eq_true rfl⟩) ⟨roP_blind, fw_recv hK hF.1 hc0 rfl, roP_pre hK hF.1⟩ rfl rfl hl.1 rfl (lv_room (Nat.le_of_ble_eq_true rfl)) d_Cs_tick_28 ⟨by decide, by decide⟩) ?_
            refine zb_if_ne (tgt := 44) hx hb d_Cs_tick_31 (by decide) (fun c31 => ?_) (fun c31 => ?_)
            · refine lv_iload_n hx hb d_Cs_tick_44 rfl (lv_at hl 0 rfl) ?_
              refine zz_if_ne (tgt := 53) hx hb d_Cs_tick_45 (by decide) ⟨by omega, by omega⟩ (fun c45 => ?_) (fun c45 => ?_)
              · refine lv_iload_n hx hb d_Cs_tick_53 rfl (lv_at hl 0 rfl) ?_
                have q1 : (tkF n.toNat M0).1 = i := (by rw [e1, tkF, if_pos c31]; rfl)
                have q2 : (tkF n.toNat M0).2 = M := (by rw [e2, tkF, if_pos c31])
                exact rw_iret hx hb hr hlocks d_Cs_tick_54 (by omega) (by omega) hF ⟨congrArg iZ (by rw [tkR, if_neg nz, q1, if_neg (by omega)]), (by rw [tkM, if_neg nz, q2]; exact hC), hof⟩
              · refine lv_bipush (v := iZ (-2)) hx hb d_Cs_tick_48 (by decide) ?_
                refine lv_goto (tgt := 54) hx hb d_Cs_tick_50 (by decide) ?_
                have q1 : (tkF n.toNat M0).1 = i := (by rw [e1, tkF, if_pos c31]; rfl)
                have q2 : (tkF n.toNat M0).2 = M := (by rw [e2, tkF, if_pos c31])
                exact rw_iret hx hb hr hlocks d_Cs_tick_54 (by omega) (by omega) hF ⟨congrArg iZ (by rw [tkR, if_neg nz, q1, if_pos (by omega)]), (by rw [tkM, if_neg nz, q2]; exact hC), hof⟩
            · have hO2 : CsO O a A M := ⟨hO.1, hO.2.1, hO.2.2.1, hO.2.2.2.1, hO.2.2.2.2.1, fun z => hO.2.2.2.2.2.1 (by omega), fun j hj => by rw [hNs]; exact hO.2.2.2.2.2.2 j (by omega)⟩
              refine lv_aload_n hx hb d_Cs_tick_34 rfl (lv_at hl 1 rfl) ?_
              refine fw_callv (va_runV (As := []) (rest := []) ⟨hx, hb, hml, hown, hts⟩ (c_Cs_pass l g w2 H.size a A M O tb hC hI0 hO2 (by omega) c31) (cwV 0 hts (gdV k_Cs_passUnit t_380 t_382 t_12 t_45) rfl rfl rfl (by decide +kernel) ⟨Nat.le_of_ble_eq_true rfl, Nat.le_of_ble_eq_true rfl⟩) ⟨rwP_blind, fw_recv hK hF.1 hc0 rfl, rwP_pre hK hT hA hF⟩ rfl rfl hl.1 rfl (lv_room (Nat.le_of_ble_eq_true rfl)) d_Cs_tick_35 ⟨by decide, by decide⟩) hF hA (fun w1 H locs hp2 hz hF => ?_)
              obtain ⟨k1, k2⟩ := hp2
              refine lv_iinc (v := iZ (((i : Int)) + 1)) (lv' := [(2, .int (iZ (((i : Int)) + 1))), (0, .ref a), (1, .int (iZ n))]) hx hb d_Cs_tick_38 hl (k := 0) rfl (iZ_add _ _) (by decide) rfl (fun ls hl => ?_)
              refine lv_goto (tgt := 22) hx hb d_Cs_tick_41 (by decide) ?_
              exact ih (i + 1) (puM M) w1 H locs (by omega) (by rw [e1, tkF, if_neg (by rw [c31]; decide)]; omega) (by rw [e2, tkF, if_neg (by rw [c31]; decide)]) ((puM_same M).1.trans hN) ((puM_same M).2.2.1.trans hNs) (by rw [(puM_same M).2.2.2.2.2.2]; omega) k1 (CsI_puM hI0 c31 (by omega)) (fun q hq => (k2 q hq).trans (hof q hq)) hF ls (lv_sub hl [0, 1, 2] rfl)
      exact lp n.toNat 0 M0 w s.heap [] (by omega) (by omega) rfl rfl rfl (by omega) hC hI0 (fun q _ => rfl) hF ls (lv_sub hl [0, 1, 2] rfl)
    · refine lv_iconst (v := iZ (-1)) hx hb d_Cs_tick_18 rfl ?_
      exact rw_iret hx hb hr hlocks d_Cs_tick_19 (by omega) (by omega) hF ⟨congrArg iZ (by rw [tkR, if_pos (Or.inr (of_decide_eq_true c15))]), (by rw [tkM, if_pos (Or.inr (of_decide_eq_true c15))]; exact hC), fun q _ => rfl⟩
