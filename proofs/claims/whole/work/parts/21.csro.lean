set_option maxHeartbeats 4000000 in
set_option maxRecDepth 100000 in
theorem c_Cs_outside (l : Launch) (g : GG) (w : fw) (v x y : Int) (hr_0 : ir v) (hr_1 : ir x) (hr_2 : ir y) : RO l y_Cs_isOutside w_Cs_isOutside ({ frames := 0, cells := 0, slots := 0, locals := 0 }) g w [.int (iZ v), .int (iZ x), .int (iZ y)] (.int (bZ (decide (v < x ∨ y < v)))) := by
  refine ro_go (by decide) rfl (Nat.le_of_ble_eq_true rfl) ?_
  intro p e s m below meth c hx hb hr hml hown hts hlocks hK hP ls hl
  have hown : s.vm.findClass rCs = some m.cls := hown
  have hl : lv_has ls 3 [(0, .int (iZ v)), (1, .int (iZ x)), (2, .int (iZ y))] := hl
  obtain ⟨hr_0a, hr_0b⟩ := hr_0
  obtain ⟨hr_1a, hr_1b⟩ := hr_1
  obtain ⟨hr_2a, hr_2b⟩ := hr_2
  refine lv_iload_n hx hb d_Cs_isOutside_0 rfl (lv_at hl 0 rfl) ?_
  refine lv_iload_n hx hb d_Cs_isOutside_1 rfl (lv_at hl 1 rfl) ?_
  refine zz_icmp_lt (tgt := 10) hx hb d_Cs_isOutside_2 (by decide) ⟨by omega, by omega⟩ ⟨by omega, by omega⟩ (fun c2 => ?_) (fun c2 => ?_)
  · refine lv_iconst (v := iZ 1) hx hb d_Cs_isOutside_10 rfl ?_
    refine lv_goto (tgt := 15) hx hb d_Cs_isOutside_11 (by decide) ?_
    exact ro_zret hx hb hr hlocks d_Cs_isOutside_15 (bz1 (decide_eq_true (by omega)))
  · refine lv_iload_n hx hb d_Cs_isOutside_5 rfl (lv_at hl 0 rfl) ?_
    refine lv_iload_n hx hb d_Cs_isOutside_6 rfl (lv_at hl 2 rfl) ?_
    refine zz_icmp_le (tgt := 14) hx hb d_Cs_isOutside_7 (by decide) ⟨by omega, by omega⟩ ⟨by omega, by omega⟩ (fun c7 => ?_) (fun c7 => ?_)
    · refine lv_iconst (v := iZ 0) hx hb d_Cs_isOutside_14 rfl ?_
      exact ro_zret hx hb hr hlocks d_Cs_isOutside_15 (bz0 (decide_eq_false (by omega)))
    · refine lv_iconst (v := iZ 1) hx hb d_Cs_isOutside_10 rfl ?_
      refine lv_goto (tgt := 15) hx hb d_Cs_isOutside_11 (by decide) ?_
      exact ro_zret hx hb hr hlocks d_Cs_isOutside_15 (bz1 (decide_eq_true (by omega)))

set_option maxHeartbeats 4000000 in
set_option maxRecDepth 100000 in
theorem c_Cs_noObj (l : Launch) (g : GG) (w : fw) (v : Int) (hr_0 : ir v) : RO l y_Cs_isNoObject w_Cs_isNoObject ({ frames := 1, cells := 0, slots := 0, locals := 22 }) g w [.int (iZ v)] (.int (bZ (decide (v < 0 ∨ 3 < v)))) := by
  refine ro_go (by decide) rfl (Nat.le_of_ble_eq_true rfl) ?_
  intro p e s m below meth c hx hb hr hml hown hts hlocks hK hP ls hl
  have hown : s.vm.findClass rCs = some m.cls := hown
  have hl : lv_has ls 1 [(0, .int (iZ v))] := hl
  obtain ⟨hr_0a, hr_0b⟩ := hr_0
  refine lv_iload_n hx hb d_Cs_isNoObject_0 rfl (lv_at hl 0 rfl) ?_
  refine lv_iconst (v := iZ 0) hx hb d_Cs_isNoObject_1 rfl ?_
  refine lv_iconst (v := iZ 3) hx hb d_Cs_isNoObject_2 rfl ?_
  refine fw_ro (r := .int (bZ (decide (v < 0 ∨ 3 < v)))) (va_runS (As := [.int (iZ v), .int (iZ 0), .int (iZ 3)]) (rest := []) ⟨hx, hb, hml, hown, hts⟩ (c_Cs_outside l g w v 0 3 ⟨by omega, by omega⟩ ⟨by omega, by omega⟩ ⟨by omega, by omega⟩) (va_cwS 3 hts (gdS k_Cs_isOutside t_141 t_142 t_45) rfl rfl rfl (by decide +kernel) ⟨Nat.le_of_ble_eq_true rfl, Nat.le_of_ble_eq_true rfl⟩) ⟨roP_blind, roP_pre hK hP⟩ rfl rfl hl.1 rfl (lv_room (Nat.le_of_ble_eq_true rfl)) d_Cs_isNoObject_3 ⟨by decide, by decide⟩) ?_
  exact ro_zret hx hb hr hlocks d_Cs_isNoObject_6 rfl

set_option maxHeartbeats 4000000 in
set_option maxRecDepth 100000 in
theorem c_Cs_noTask (l : Launch) (g : GG) (w : fw) (a : Nat) (A : ADT) (M : CsM) (tb : Int) (v : Int) (hC : CsP g w a A M) (hI : CsI M tb) (hr_0 : ir v) : RO l y_Cs_isNoTask w_Cs_isNoTask ({ frames := 1, cells := 0, slots := 0, locals := 22 }) g w [.ref a, .int (iZ v)] (.int (bZ (decide (v < 0 ∨ (mN M : Int) - 1 < v)))) := by
  refine ro_go (by decide) rfl (Nat.le_of_ble_eq_true rfl) ?_
  intro p e s m below meth c hx hb hr hml hown hts hlocks hK hP ls hl
  have hown : s.vm.findClass rCs = some m.cls := hown
  have hl : lv_has ls 2 [(0, .ref a), (1, .int (iZ v))] := hl
  have hI0 := hI
  have hc0 := hC.c0
  have htl := hC.tl
  have hca := hC.ca
  have hhi := hC.hi
  have hha := hC.ha
  obtain ⟨itb, in6, iti, ilr, iln, ice, itk⟩ := hI
  obtain ⟨hr_0a, hr_0b⟩ := hr_0
  refine lv_iload_n hx hb d_Cs_isNoTask_0 rfl (lv_at hl 1 rfl) ?_
  refine lv_iconst (v := iZ 0) hx hb d_Cs_isNoTask_1 rfl ?_
  refine lv_aload_n hx hb d_Cs_isNoTask_2 rfl (lv_at hl 0 rfl) ?_
  refine fw_get (ci := 4) (v := .ref (aTl A)) (C := rCs) (T := fCs) (N := 4) hx hb hts iCs hown hK hP hc0 rfl 0 (by decide) (hts _ t_124) (fun _ h9 => h9) rfl d_Cs_isNoTask_3 ?_
  refine fw_ro (r := .int (iZ ((mN M : Int)))) (va_runV (As := []) (rest := [.int (iZ 0), .int (iZ v)]) ⟨hx, hb, hml, hown, hts⟩ (c_AL_size l g w (aTl A) (aTe A) (aMo A) ((mN M : Int)) htl) (cwV 0 hts (gdV k_AL_size t_144 t_145 t_146 t_48) rfl rfl rfl (by decide +kernel) ⟨Nat.le_of_ble_eq_true rfl, Nat.le_of_ble_eq_true rfl⟩) ⟨roP_blind, fw_recv hK hP htl rfl, roP_pre hK hP⟩ rfl rfl hl.1 rfl (lv_room (Nat.le_of_ble_eq_true rfl)) d_Cs_isNoTask_6 ⟨by decide, by decide⟩) ?_
  refine lv_iconst (v := iZ 1) hx hb d_Cs_isNoTask_9 rfl ?_
  refine zz_isub hx hb d_Cs_isNoTask_10 ?_
  refine fw_ro (r := .int (bZ (decide (v < 0 ∨ ((mN M : Int)) - 1 < v)))) (va_runS (As := [.int (iZ v), .int (iZ 0), .int (iZ (((mN M : Int)) - 1))]) (rest := []) ⟨hx, hb, hml, hown, hts⟩ (c_Cs_outside l g w v 0 (((mN M : Int)) - 1) ⟨by omega, by omega⟩ ⟨by omega, by omega⟩ ⟨by omega, by omega⟩) (va_cwS 3 hts (gdS k_Cs_isOutside t_141 t_142 t_45) rfl rfl rfl (by decide +kernel) ⟨Nat.le_of_ble_eq_true rfl, Nat.le_of_ble_eq_true rfl⟩) ⟨roP_blind, roP_pre hK hP⟩ rfl rfl hl.1 rfl (lv_room (Nat.le_of_ble_eq_true rfl)) d_Cs_isNoTask_11 ⟨by decide, by decide⟩) ?_
  exact ro_zret hx hb hr hlocks d_Cs_isNoTask_14 rfl

set_option maxHeartbeats 4000000 in
set_option maxRecDepth 100000 in
theorem c_Cs_active (l : Launch) (g : GG) (w : fw) (a : Nat) (A : ADT) (M : CsM) (tb : Int) (i : Nat) (hC : CsP g w a A M) (hI : CsI M tb) (hi : i < mN M) : RO l y_Cs_activePriority w_Cs_activePriority ({ frames := 4, cells := 0, slots := 0, locals := 86 }) g w [.ref a, .ref (aTk A i)] (.int (iZ (acP M i))) := by
  refine ro_go (by decide) rfl (Nat.le_of_ble_eq_true rfl) ?_
  intro p e s m below meth c hx hb hr hml hown hts hlocks hK hP ls hl
  have hown : s.vm.findClass rCs = some m.cls := hown
  have hl : lv_has ls 3 [(0, .ref a), (1, .ref (aTk A i))] := hl
  have hI0 := hI
  have hc0 := hC.c0
  have htl := hC.tl
  have hca := hC.ca
  have hhi := hC.hi
  have hha := hC.ha
  obtain ⟨itb, in6, iti, ilr, iln, ice, itk⟩ := hI
  obtain ⟨kti, ksli, ks0i, ksei, kqfi, ksai, kjqi, krai⟩ := hC.tk i hi
  obtain ⟨rperi, rcsti, rddli, rprii, rnsi, rSi, rnxi, rfri, rndi, rufi, rrli, rlri, rgri, rrei, rlxi⟩ := itk i hi
  refine lv_aload_n hx hb d_Cs_activePriority_0 rfl (lv_at hl 1 rfl) ?_
  refine fw_ro (r := .int (iZ (hdM M i))) (va_runVN (As := []) (rest := []) ⟨hx, hb, hml, hown, hts⟩ (c_Ta_held l g w (aTk A i) (aSl A i) (aSe A i) (aJq A i) (aRa A i) (aSa A i) (sPer (mTs M i)) (sCst (mTs M i)) (sDdl (mTs M i)) (sPri (mTs M i)) (dNxt (mTd M i)) (sSpo (mTs M i)) (mNs M i) (mSc M i) (aMs A i) (aQs A i) (dFr (mTd M i)) (dNd (mTd M i)) (dUf (mTd M i)) (dRl (mTd M i)) (dLr (mTd M i)) (dDl (mTd M i)) (dGr (mTd M i)) kti ksli (by omega) ksei kqfi ksai rSi kjqi ⟨by omega, by omega⟩) ⟨va_cnB 0 hts (gdT k_Ta_heldObject) rfl rfl rfl (hK.2.1 _ n_405) (hts _ t_51) (by decide +kernel) ⟨Nat.le_of_ble_eq_true rfl, Nat.le_of_ble_eq_true rfl⟩, hts _ t_407, hts _ t_18⟩ ⟨roP_blind, fw_recv hK hP kti rfl, roP_pre hK hP⟩ rfl rfl hl.1 rfl (lv_room (Nat.le_of_ble_eq_true rfl)) d_Cs_activePriority_1 ⟨by decide, by decide⟩) ?_
  refine lv_istore_n (lv' := [(2, .int (iZ (hdM M i))), (0, .ref a), (1, .ref (aTk A i))]) hx hb d_Cs_activePriority_4 rfl hl (by decide) rfl (fun ls hl => ?_)
  have hrg := hdM_rng M i rSi
  refine lv_iload_n hx hb d_Cs_activePriority_5 rfl (lv_at hl 0 rfl) ?_
  refine lv_bipush (v := iZ (-3)) hx hb d_Cs_activePriority_6 (by decide) ?_
  refine zz_icmp_ne (tgt := 18) hx hb d_Cs_activePriority_8 (by decide) ⟨by omega, by omega⟩ ⟨by omega, by omega⟩ (fun c8 => ?_) (fun c8 => ?_)
  · refine lv_aload_n hx hb d_Cs_activePriority_18 rfl (lv_at hl 2 rfl) ?_
    refine fw_getN (ci := 3) (v := .int (iZ (sPri (mTs M i)))) (C := rTa) (T := fTa) (N := 8) (index := 71) (ref := "CeilingScheduler$Task") (host := "CeilingScheduler") hx hb hts iTa hown hK hP kti rfl 3 (by decide) n_199 (fun _ h9 => h9) rfl d_Cs_activePriority_19 ?_
    refine lv_aload_n hx hb d_Cs_activePriority_22 rfl (lv_at hl 1 rfl) ?_
    refine fw_get (ci := 4) (v := .ref (aCa A)) (C := rCs) (T := fCs) (N := 4) hx hb hts iCs hown hK hP hc0 rfl 1 (by decide) (hts _ t_125) (fun _ h9 => h9) rfl d_Cs_activePriority_23 ?_
    refine lv_iload_n hx hb d_Cs_activePriority_26 rfl (lv_at hl 0 rfl) ?_
    refine fw_iald hx hb hK hP hca (by decide) (((hdM M i).toNat)) (by omega) (by omega) d_Cs_activePriority_27 ?_
    have hce := ice (hdM M i).toNat
    refine va_mmax hx hb (by rw [hml]; exact hl.1.symm) hown (hts _ t_310) (hts _ t_244) (hts _ t_54) (hts _ k_Ma_max) (Nat.le_of_ble_eq_true rfl) (Nat.le_of_ble_eq_true rfl) (Nat.le_of_ble_eq_true rfl) (Nat.le_of_ble_eq_true rfl) d_Cs_activePriority_28 ?_
    rw [iZ_max ⟨by omega, by omega⟩ ⟨by omega, by omega⟩]
    exact ro_iret hx hb hr hlocks d_Cs_activePriority_31 (congrArg iZ (by rw [acP, if_neg c8]))
  · refine lv_aload_n hx hb d_Cs_activePriority_11 rfl (lv_at hl 2 rfl) ?_
    refine fw_getN (ci := 3) (v := .int (iZ (sPri (mTs M i)))) (C := rTa) (T := fTa) (N := 8) (index := 71) (ref := "CeilingScheduler$Task") (host := "CeilingScheduler") hx hb hts iTa hown hK hP kti rfl 3 (by decide) n_199 (fun _ h9 => h9) rfl d_Cs_activePriority_12 ?_
    refine lv_goto (tgt := 31) hx hb d_Cs_activePriority_15 (by decide) ?_
    exact ro_iret hx hb hr hlocks d_Cs_activePriority_31 (congrArg iZ (by rw [acP, if_pos c8]))

set_option maxHeartbeats 4000000 in
set_option maxRecDepth 100000 in
theorem c_Cs_before (l : Launch) (g : GG) (w : fw) (a : Nat) (A : ADT) (M : CsM) (tb : Int) (i b : Nat) (hC : CsP g w a A M) (hI : CsI M tb) (hi : i < mN M) (hb2 : b < mN M) : RO l y_Cs_goesBefore w_Cs_goesBefore ({ frames := 5, cells := 0, slots := 0, locals := 108 }) g w [.ref a, .int (iZ ((i : Int))), .int (iZ ((b : Int)))] (.int (bZ (gbM M i b))) := by
  refine ro_go (by decide) rfl (Nat.le_of_ble_eq_true rfl) ?_
  intro p e s m below meth c hx hb hr hml hown hts hlocks hK hP ls hl
  have hown : s.vm.findClass rCs = some m.cls := hown
  have hl : lv_has ls 9 [(0, .ref a), (1, .int (iZ ((i : Int)))), (2, .int (iZ ((b : Int))))] := hl
  have hI0 := hI
  have hc0 := hC.c0
  have htl := hC.tl
  have hca := hC.ca
  have hhi := hC.hi
  have hha := hC.ha
  obtain ⟨itb, in6, iti, ilr, iln, ice, itk⟩ := hI
  have hai := acP_rng M i ice (itk i hi).2.2.2.1
  have hab := acP_rng M b ice (itk b hb2).2.2.2.1
  refine lv_aload_n hx hb d_Cs_goesBefore_0 rfl (lv_at hl 0 rfl) ?_
  refine fw_get (ci := 4) (v := .ref (aTl A)) (C := rCs) (T := fCs) (N := 4) hx hb hts iCs hown hK hP hc0 rfl 0 (by decide) (hts _ t_124) (fun _ h9 => h9) rfl d_Cs_goesBefore_1 ?_
  refine lv_iload_n hx hb d_Cs_goesBefore_4 rfl (lv_at hl 1 rfl) ?_
  refine fw_ro (r := .ref (aTk A i)) (va_runV (As := [.int (iZ ((i : Int)))]) (rest := []) ⟨hx, hb, hml, hown, hts⟩ (c_AL_get l g w (aTl A) (aTe A) (aMo A) (mN M) (aQf A) i (aTk A i) htl (hC.te (by omega)) (by omega) (by omega) (hC.qf i (by omega))) (cwV 1 hts (gdV k_AL_get t_289 t_290 t_291 t_48) rfl rfl rfl (by decide +kernel) ⟨Nat.le_of_ble_eq_true rfl, Nat.le_of_ble_eq_true rfl⟩) ⟨roP_blind, fw_recv hK hP htl rfl, roP_pre hK hP⟩ rfl rfl hl.1 rfl (lv_room (Nat.le_of_ble_eq_true rfl)) d_Cs_goesBefore_5 ⟨by decide, by decide⟩) ?_
  obtain ⟨kti, ksli, ks0i, ksei, kqfi, ksai, kjqi, krai⟩ := hC.tk i (by omega)
  obtain ⟨rperi, rcsti, rddli, rprii, rnsi, rSi, rnxi, rfri, rndi, rufi, rrli, rlri, rgri, rrei, rlxi⟩ := itk i (by omega)
  refine fw_cast (T := fTa) (N := 8) hx hb hown (hts _ t_148) hK hP kti rfl d_Cs_goesBefore_8 ?_
  refine lv_astore_n (lv' := [(3, .ref (aTk A i)), (0, .ref a), (1, .int (iZ ((i : Int)))), (2, .int (iZ ((b : Int))))]) hx hb d_Cs_goesBefore_11 rfl hl (by decide) rfl (fun ls hl => ?_)
  refine lv_aload_n hx hb d_Cs_goesBefore_12 rfl (lv_at hl 1 rfl) ?_
  refine fw_get (ci := 4) (v := .ref (aTl A)) (C := rCs) (T := fCs) (N := 4) hx hb hts iCs hown hK hP hc0 rfl 0 (by decide) (hts _ t_124) (fun _ h9 => h9) rfl d_Cs_goesBefore_13 ?_
  refine lv_iload_n hx hb d_Cs_goesBefore_16 rfl (lv_at hl 3 rfl) ?_
  refine fw_ro (r := .ref (aTk A b)) (va_runV (As := [.int (iZ ((b : Int)))]) (rest := []) ⟨hx, hb, hml, hown, hts⟩ (c_AL_get l g w (aTl A) (aTe A) (aMo A) (mN M) (aQf A) b (aTk A b) htl (hC.te (by omega)) (by omega) (by omega) (hC.qf b (by omega))) (cwV 1 hts (gdV k_AL_get t_289 t_290 t_291 t_48) rfl rfl rfl (by decide +kernel) ⟨Nat.le_of_ble_eq_true rfl, Nat.le_of_ble_eq_true rfl⟩) ⟨roP_blind, fw_recv hK hP htl rfl, roP_pre hK hP⟩ rfl rfl hl.1 rfl (lv_room (Nat.le_of_ble_eq_true rfl)) d_Cs_goesBefore_17 ⟨by decide, by decide⟩) ?_
  obtain ⟨ktb, kslb, ks0b, kseb, kqfb, ksab, kjqb, krab⟩ := hC.tk b (by omega)
  obtain ⟨rperb, rcstb, rddlb, rprib, rnsb, rSb, rnxb, rfrb, rndb, rufb, rrlb, rlrb, rgrb, rreb, rlxb⟩ := itk b (by omega)
  refine fw_cast (T := fTa) (N := 8) hx hb hown (hts _ t_148) hK hP ktb rfl d_Cs_goesBefore_20 ?_
  refine lv_astore (lv' := [(4, .ref (aTk A b)), (3, .ref (aTk A i)), (0, .ref a), (1, .int (iZ ((i : Int)))), (2, .int (iZ ((b : Int))))]) hx hb d_Cs_goesBefore_23 hl (by decide) rfl (fun ls hl => ?_)
  refine lv_aload_n hx hb d_Cs_goesBefore_25 rfl (lv_at hl 2 rfl) ?_
  refine lv_aload_n hx hb d_Cs_goesBefore_26 rfl (lv_at hl 1 rfl) ?_
  refine fw_ro (r := .int (iZ (acP M i))) (va_runV (As := [.ref (aTk A i)]) (rest := []) ⟨hx, hb, hml, hown, hts⟩ (c_Cs_active l g w a A M tb i hC hI0 (by omega)) (cwV 1 hts (gdV k_Cs_activePriority t_401 t_403 t_17 t_45) rfl rfl rfl (by decide +kernel) ⟨Nat.le_of_ble_eq_true rfl, Nat.le_of_ble_eq_true rfl⟩) ⟨roP_blind, fw_recv hK hP hc0 rfl, roP_pre hK hP⟩ rfl rfl hl.1 rfl (lv_room (Nat.le_of_ble_eq_true rfl)) d_Cs_goesBefore_27 ⟨by decide, by decide⟩) ?_
  refine lv_istore (lv' := [(5, .int (iZ (acP M i))), (4, .ref (aTk A b)), (3, .ref (aTk A i)), (0, .ref a), (1, .int (iZ ((i : Int)))), (2, .int (iZ ((b : Int))))]) hx hb d_Cs_goesBefore_30 hl (by decide) rfl (fun ls hl => ?_)
  refine lv_aload_n hx hb d_Cs_goesBefore_32 rfl (lv_at hl 3 rfl) ?_
  refine lv_aload hx hb d_Cs_goesBefore_33 (lv_at hl 1 rfl) ?_
  refine fw_ro (r := .int (iZ (acP M b))) (va_runV (As := [.ref (aTk A b)]) (rest := []) ⟨hx, hb, hml, hown, hts⟩ (c_Cs_active l g w a A M tb b hC hI0 (by omega)) (cwV 1 hts (gdV k_Cs_activePriority t_401 t_403 t_17 t_45) rfl rfl rfl (by decide +kernel) ⟨Nat.le_of_ble_eq_true rfl, Nat.le_of_ble_eq_true rfl⟩) ⟨roP_blind, fw_recv hK hP hc0 rfl, roP_pre hK hP⟩ rfl rfl hl.1 rfl (lv_room (Nat.le_of_ble_eq_true rfl)) d_Cs_goesBefore_35 ⟨by decide, by decide⟩) ?_
  refine lv_istore (lv' := [(6, .int (iZ (acP M b))), (5, .int (iZ (acP M i))), (4, .ref (aTk A b)), (3, .ref (aTk A i)), (0, .ref a), (1, .int (iZ ((i : Int)))), (2, .int (iZ ((b : Int))))]) hx hb d_Cs_goesBefore_38 hl (by decide) rfl (fun ls hl => ?_)
  refine lv_iload hx hb d_Cs_goesBefore_40 (lv_at hl 1 rfl) ?_
  refine lv_iload hx hb d_Cs_goesBefore_42 (lv_at hl 0 rfl) ?_
  refine zz_icmp_eq (tgt := 60) hx hb d_Cs_goesBefore_44 (by decide) ⟨by omega, by omega⟩ ⟨by omega, by omega⟩ (fun c44 => ?_) (fun c44 => ?_)
  · have hri := hdM_rng M i rSi
    have hrb := hdM_rng M b rSb
    have hfi : 0 ≤ frM M i ∧ frM M i ≤ tb := rrei _
    have hfb : 0 ≤ frM M b ∧ frM M b ≤ tb := rreb _
    refine lv_aload_n hx hb d_Cs_goesBefore_60 rfl (lv_at hl 3 rfl) ?_
    refine fw_ro (r := .int (iZ (hdM M i))) (va_runVN (As := []) (rest := []) ⟨hx, hb, hml, hown, hts⟩ (c_Ta_held l g w (aTk A i) (aSl A i) (aSe A i) (aJq A i) (aRa A i) (aSa A i) (sPer (mTs M i)) (sCst (mTs M i)) (sDdl (mTs M i)) (sPri (mTs M i)) (dNxt (mTd M i)) (sSpo (mTs M i)) (mNs M i) (mSc M i) (aMs A i) (aQs A i) (dFr (mTd M i)) (dNd (mTd M i)) (dUf (mTd M i)) (dRl (mTd M i)) (dLr (mTd M i)) (dDl (mTd M i)) (dGr (mTd M i)) kti ksli (by omega) ksei kqfi ksai rSi kjqi ⟨by omega, by omega⟩) ⟨va_cnB 0 hts (gdT k_Ta_heldObject) rfl rfl rfl (hK.2.1 _ n_405) (hts _ t_51) (by decide +kernel) ⟨Nat.le_of_ble_eq_true rfl, Nat.le_of_ble_eq_true rfl⟩, hts _ t_407, hts _ t_18⟩ ⟨roP_blind, fw_recv hK hP kti rfl, roP_pre hK hP⟩ rfl rfl hl.1 rfl (lv_room (Nat.le_of_ble_eq_true rfl)) d_Cs_goesBefore_61 ⟨by decide, by decide⟩) ?_
    refine lv_bipush (v := iZ (-3)) hx hb d_Cs_goesBefore_64 (by decide) ?_
    refine zz_icmp_eq (tgt := 73) hx hb d_Cs_goesBefore_66 (by decide) ⟨by omega, by omega⟩ ⟨by omega, by omega⟩ (fun c66 => ?_) (fun c66 => ?_)
    · refine lv_iconst (v := iZ 0) hx hb d_Cs_goesBefore_73 rfl ?_
      refine lv_istore (lv' := [(7, .int (iZ 0)), (6, .int (iZ (acP M b))), (5, .int (iZ (acP M i))), (4, .ref (aTk A b)), (3, .ref (aTk A i)), (0, .ref a), (1, .int (iZ ((i : Int)))), (2, .int (iZ ((b : Int))))]) hx hb d_Cs_goesBefore_74 hl (by decide) rfl (fun ls hl => ?_)
      refine lv_aload hx hb d_Cs_goesBefore_76 (lv_at hl 3 rfl) ?_
      refine fw_ro (r := .int (iZ (hdM M b))) (va_runVN (As := []) (rest := []) ⟨hx, hb, hml, hown, hts⟩ (c_Ta_held l g w (aTk A b) (aSl A b) (aSe A b) (aJq A b) (aRa A b) (aSa A b) (sPer (mTs M b)) (sCst (mTs M b)) (sDdl (mTs M b)) (sPri (mTs M b)) (dNxt (mTd M b)) (sSpo (mTs M b)) (mNs M b) (mSc M b) (aMs A b) (aQs A b) (dFr (mTd M b)) (dNd (mTd M b)) (dUf (mTd M b)) (dRl (mTd M b)) (dLr (mTd M b)) (dDl (mTd M b)) (dGr (mTd M b)) ktb kslb (by omega) kseb kqfb ksab rSb kjqb ⟨by omega, by omega⟩) ⟨va_cnB 0 hts (gdT k_Ta_heldObject) rfl rfl rfl (hK.2.1 _ n_405) (hts _ t_51) (by decide +kernel) ⟨Nat.le_of_ble_eq_true rfl, Nat.le_of_ble_eq_true rfl⟩, hts _ t_407, hts _ t_18⟩ ⟨roP_blind, fw_recv hK hP ktb rfl, roP_pre hK hP⟩ rfl rfl hl.1 rfl (lv_room (Nat.le_of_ble_eq_true rfl)) d_Cs_goesBefore_78 ⟨by decide, by decide⟩) ?_
      refine lv_bipush (v := iZ (-3)) hx hb d_Cs_goesBefore_81 (by decide) ?_
      refine zz_icmp_eq (tgt := 90) hx hb d_Cs_goesBefore_83 (by decide) ⟨by omega, by omega⟩ ⟨by omega, by omega⟩ (fun c83 => ?_) (fun c83 => ?_)
      · refine lv_iconst (v := iZ 0) hx hb d_Cs_goesBefore_90 rfl ?_
        refine lv_istore (lv' := [(8, .int (iZ 0)), (7, .int (iZ 0)), (6, .int (iZ (acP M b))), (5, .int (iZ (acP M i))), (4, .ref (aTk A b)), (3, .ref (aTk A i)), (0, .ref a), (1, .int (iZ ((i : Int)))), (2, .int (iZ ((b : Int))))]) hx hb d_Cs_goesBefore_91 hl (by decide) rfl (fun ls hl => ?_)
        refine lv_iload hx hb d_Cs_goesBefore_93 (lv_at hl 1 rfl) ?_
        refine lv_iload hx hb d_Cs_goesBefore_95 (lv_at hl 0 rfl) ?_
        refine zz_icmp_eq (tgt := 103) hx hb d_Cs_goesBefore_97 (by decide) ⟨by omega, by omega⟩ ⟨by omega, by omega⟩ (fun c97 => ?_) (fun c97 => ?_)
        · refine lv_iload_n hx hb d_Cs_goesBefore_103 rfl (lv_at hl 7 rfl) ?_
          refine lv_aload_n hx hb d_Cs_goesBefore_104 rfl (lv_at hl 6 rfl) ?_
          refine fw_get (ci := 4) (v := .ref (aHi A)) (C := rCs) (T := fCs) (N := 4) hx hb hts iCs hown hK hP hc0 rfl 2 (by decide) (hts _ t_126) (fun _ h9 => h9) rfl d_Cs_goesBefore_105 ?_
          refine fw_getN (ci := 0) (v := .int (iZ (hLr (mHi M)))) (C := rHi) (T := fHi) (N := 6) (index := 117) (ref := "CeilingScheduler$History") (host := "CeilingScheduler") hx hb hts iHi hown hK hP hhi rfl 4 (by decide) n_108 (fun _ h9 => h9) rfl d_Cs_goesBefore_108 ?_
          refine zz_icmp_eq (tgt := 125) hx hb d_Cs_goesBefore_111 (by decide) ⟨by omega, by omega⟩ ⟨by omega, by omega⟩ (fun c111 => ?_) (fun c111 => ?_)
          · refine lv_iload_n hx hb d_Cs_goesBefore_125 rfl (lv_at hl 7 rfl) ?_
            refine lv_aload_n hx hb d_Cs_goesBefore_126 rfl (lv_at hl 6 rfl) ?_
            refine fw_get (ci := 4) (v := .ref (aHi A)) (C := rCs) (T := fCs) (N := 4) hx hb hts iCs hown hK hP hc0 rfl 2 (by decide) (hts _ t_126) (fun _ h9 => h9) rfl d_Cs_goesBefore_127 ?_
            refine fw_getN (ci := 0) (v := .int (iZ (hLr (mHi M)))) (C := rHi) (T := fHi) (N := 6) (index := 117) (ref := "CeilingScheduler$History") (host := "CeilingScheduler") hx hb hts iHi hown hK hP hhi rfl 4 (by decide) n_108 (fun _ h9 => h9) rfl d_Cs_goesBefore_130 ?_
            refine zz_icmp_ne (tgt := 140) hx hb d_Cs_goesBefore_133 (by decide) ⟨by omega, by omega⟩ ⟨by omega, by omega⟩ (fun c133 => ?_) (fun c133 => ?_)
            · refine lv_iconst (v := iZ 0) hx hb d_Cs_goesBefore_140 rfl ?_
              exact ro_zret hx hb hr hlocks d_Cs_goesBefore_141 (bz0 (gbM_l0 c44 (by omega) (by omega) (by omega)))
            · refine lv_iconst (v := iZ 1) hx hb d_Cs_goesBefore_136 rfl ?_
              refine lv_goto (tgt := 141) hx hb d_Cs_goesBefore_137 (by decide) ?_
              exact ro_zret hx hb hr hlocks d_Cs_goesBefore_141 (bz1 (gbM_l1 c44 (by omega) (by omega)))
          · refine lv_iload_n hx hb d_Cs_goesBefore_114 rfl (lv_at hl 8 rfl) ?_
            refine lv_aload_n hx hb d_Cs_goesBefore_115 rfl (lv_at hl 6 rfl) ?_
            refine fw_get (ci := 4) (v := .ref (aHi A)) (C := rCs) (T := fCs) (N := 4) hx hb hts iCs hown hK hP hc0 rfl 2 (by decide) (hts _ t_126) (fun _ h9 => h9) rfl d_Cs_goesBefore_116 ?_
            refine fw_getN (ci := 0) (v := .int (iZ (hLr (mHi M)))) (C := rHi) (T := fHi) (N := 6) (index := 117) (ref := "CeilingScheduler$History") (host := "CeilingScheduler") hx hb hts iHi hown hK hP hhi rfl 4 (by decide) n_108 (fun _ h9 => h9) rfl d_Cs_goesBefore_119 ?_
            refine zz_icmp_ne (tgt := 142) hx hb d_Cs_goesBefore_122 (by decide) ⟨by omega, by omega⟩ ⟨by omega, by omega⟩ (fun c122 => ?_) (fun c122 => ?_)
            · refine lv_aload_n hx hb d_Cs_goesBefore_142 rfl (lv_at hl 5 rfl) ?_
              refine fw_getN (ci := 3) (v := .ref (aJq A i)) (C := rTa) (T := fTa) (N := 8) (index := 89) (ref := "CeilingScheduler$Task") (host := "CeilingScheduler") hx hb hts iTa hown hK hP kti rfl 6 (by decide) n_205 (fun _ h9 => h9) rfl d_Cs_goesBefore_143 ?_
              refine fw_ro (r := .int (iZ (frM M i))) (va_runVN (As := []) (rest := []) ⟨hx, hb, hml, hown, hts⟩ (c_Jq_front l g w (aJq A i) (aRa A i) (dFr (mTd M i)) (dNd (mTd M i)) (dUf (mTd M i)) (dRl (mTd M i)) (dLr (mTd M i)) (dDl (mTd M i)) (dGr (mTd M i)) (dRel (mTd M i)) kjqi krai rfri) ⟨va_cnB 0 hts (gdT k_Jq_releaseOfFront) rfl rfl rfl (hK.2.1 _ n_413) (hts _ t_52) (by decide +kernel) ⟨Nat.le_of_ble_eq_true rfl, Nat.le_of_ble_eq_true rfl⟩, hts _ t_415, hts _ t_20⟩ ⟨roP_blind, fw_recv hK hP kjqi rfl, roP_pre hK hP⟩ rfl rfl hl.1 rfl (lv_room (Nat.le_of_ble_eq_true rfl)) d_Cs_goesBefore_146 ⟨by decide, by decide⟩) ?_
              refine lv_aload hx hb d_Cs_goesBefore_149 (lv_at hl 4 rfl) ?_
              refine fw_getN (ci := 3) (v := .ref (aJq A b)) (C := rTa) (T := fTa) (N := 8) (index := 89) (ref := "CeilingScheduler$Task") (host := "CeilingScheduler") hx hb hts iTa hown hK hP ktb rfl 6 (by decide) n_205 (fun _ h9 => h9) rfl d_Cs_goesBefore_151 ?_
              refine fw_ro (r := .int (iZ (frM M b))) (va_runVN (As := []) (rest := [.int (iZ (frM M i))]) ⟨hx, hb, hml, hown, hts⟩ (c_Jq_front l g w (aJq A b) (aRa A b) (dFr (mTd M b)) (dNd (mTd M b)) (dUf (mTd M b)) (dRl (mTd M b)) (dLr (mTd M b)) (dDl (mTd M b)) (dGr (mTd M b)) (dRel (mTd M b)) kjqb krab rfrb) ⟨va_cnB 0 hts (gdT k_Jq_releaseOfFront) rfl rfl rfl (hK.2.1 _ n_413) (hts _ t_52) (by decide +kernel) ⟨Nat.le_of_ble_eq_true rfl, Nat.le_of_ble_eq_true rfl⟩, hts _ t_415, hts _ t_20⟩ ⟨roP_blind, fw_recv hK hP kjqb rfl, roP_pre hK hP⟩ rfl rfl hl.1 rfl (lv_room (Nat.le_of_ble_eq_true rfl)) d_Cs_goesBefore_154 ⟨by decide, by decide⟩) ?_
              refine zz_icmp_ge (tgt := 164) hx hb d_Cs_goesBefore_157 (by decide) ⟨by omega, by omega⟩ ⟨by omega, by omega⟩ (fun c157 => ?_) (fun c157 => ?_)
              · refine lv_iconst (v := iZ 0) hx hb d_Cs_goesBefore_164 rfl ?_
                exact ro_zret hx hb hr hlocks d_Cs_goesBefore_165 (bz0 (by rw [gbM_r c44 (by omega) (by omega) (by omega)]; exact decide_eq_false (by omega)))
              · refine lv_iconst (v := iZ 1) hx hb d_Cs_goesBefore_160 rfl ?_
                refine lv_goto (tgt := 165) hx hb d_Cs_goesBefore_161 (by decide) ?_
                exact ro_zret hx hb hr hlocks d_Cs_goesBefore_165 (bz1 (by rw [gbM_r c44 (by omega) (by omega) (by omega)]; exact decide_eq_true (by omega)))
            · refine lv_iload_n hx hb d_Cs_goesBefore_125 rfl (lv_at hl 7 rfl) ?_
              refine lv_aload_n hx hb d_Cs_goesBefore_126 rfl (lv_at hl 6 rfl) ?_
              refine fw_get (ci := 4) (v := .ref (aHi A)) (C := rCs) (T := fCs) (N := 4) hx hb hts iCs hown hK hP hc0 rfl 2 (by decide) (hts _ t_126) (fun _ h9 => h9) rfl d_Cs_goesBefore_127 ?_
              refine fw_getN (ci := 0) (v := .int (iZ (hLr (mHi M)))) (C := rHi) (T := fHi) (N := 6) (index := 117) (ref := "CeilingScheduler$History") (host := "CeilingScheduler") hx hb hts iHi hown hK hP hhi rfl 4 (by decide) n_108 (fun _ h9 => h9) rfl d_Cs_goesBefore_130 ?_
              refine zz_icmp_ne (tgt := 140) hx hb d_Cs_goesBefore_133 (by decide) ⟨by omega, by omega⟩ ⟨by omega, by omega⟩ (fun c133 => ?_) (fun c133 => ?_)
              · refine lv_iconst (v := iZ 0) hx hb d_Cs_goesBefore_140 rfl ?_
                exact ro_zret hx hb hr hlocks d_Cs_goesBefore_141 (bz0 (gbM_l0 c44 (by omega) (by omega) (by omega)))
              · refine lv_iconst (v := iZ 1) hx hb d_Cs_goesBefore_136 rfl ?_
                refine lv_goto (tgt := 141) hx hb d_Cs_goesBefore_137 (by decide) ?_
                exact ro_zret hx hb hr hlocks d_Cs_goesBefore_141 (bz1 (gbM_l1 c44 (by omega) (by omega)))
        · exfalso; omega
      · refine lv_iconst (v := iZ 1) hx hb d_Cs_goesBefore_86 rfl ?_
        refine lv_goto (tgt := 91) hx hb d_Cs_goesBefore_87 (by decide) ?_
        refine lv_istore (lv' := [(8, .int (iZ 1)), (7, .int (iZ 0)), (6, .int (iZ (acP M b))), (5, .int (iZ (acP M i))), (4, .ref (aTk A b)), (3, .ref (aTk A i)), (0, .ref a), (1, .int (iZ ((i : Int)))), (2, .int (iZ ((b : Int))))]) hx hb d_Cs_goesBefore_91 hl (by decide) rfl (fun ls hl => ?_)
        refine lv_iload hx hb d_Cs_goesBefore_93 (lv_at hl 1 rfl) ?_
        refine lv_iload hx hb d_Cs_goesBefore_95 (lv_at hl 0 rfl) ?_
        refine zz_icmp_eq (tgt := 103) hx hb d_Cs_goesBefore_97 (by decide) ⟨by omega, by omega⟩ ⟨by omega, by omega⟩ (fun c97 => ?_) (fun c97 => ?_)
        · exfalso; omega
        · refine lv_iload hx hb d_Cs_goesBefore_100 (lv_at hl 1 rfl) ?_
          exact ro_zret hx hb hr hlocks d_Cs_goesBefore_102 (bz0 (gbM_h0 c44 c66 c83))
    · refine lv_iconst (v := iZ 1) hx hb d_Cs_goesBefore_69 rfl ?_
      refine lv_goto (tgt := 74) hx hb d_Cs_goesBefore_70 (by decide) ?_
      refine lv_istore (lv' := [(7, .int (iZ 1)), (6, .int (iZ (acP M b))), (5, .int (iZ (acP M i))), (4, .ref (aTk A b)), (3, .ref (aTk A i)), (0, .ref a), (1, .int (iZ ((i : Int)))), (2, .int (iZ ((b : Int))))]) hx hb d_Cs_goesBefore_74 hl (by decide) rfl (fun ls hl => ?_)
      refine lv_aload hx hb d_Cs_goesBefore_76 (lv_at hl 3 rfl) ?_
      refine fw_ro (r := .int (iZ (hdM M b))) (va_runVN (As := []) (rest := []) ⟨hx, hb, hml, hown, hts⟩ (c_Ta_held l g w (aTk A b) (aSl A b) (aSe A b) (aJq A b) (aRa A b) (aSa A b) (sPer (mTs M b)) (sCst (mTs M b)) (sDdl (mTs M b)) (sPri (mTs M b)) (dNxt (mTd M b)) (sSpo (mTs M b)) (mNs M b) (mSc M b) (aMs A b) (aQs A b) (dFr (mTd M b)) (dNd (mTd M b)) (dUf (mTd M b)) (dRl (mTd M b)) (dLr (mTd M b)) (dDl (mTd M b)) (dGr (mTd M b)) ktb kslb (by omega) kseb kqfb ksab rSb kjqb ⟨by omega, by omega⟩) ⟨va_cnB 0 hts (gdT k_Ta_heldObject) rfl rfl rfl (hK.2.1 _ n_405) (hts _ t_51) (by decide +kernel) ⟨Nat.le_of_ble_eq_true rfl, Nat.le_of_ble_eq_true rfl⟩, hts _ t_407, hts _ t_18⟩ ⟨roP_blind, fw_recv hK hP ktb rfl, roP_pre hK hP⟩ rfl rfl hl.1 rfl (lv_room (Nat.le_of_ble_eq_true rfl)) d_Cs_goesBefore_78 ⟨by decide, by decide⟩) ?_
      refine lv_bipush (v := iZ (-3)) hx hb d_Cs_goesBefore_81 (by decide) ?_
      refine zz_icmp_eq (tgt := 90) hx hb d_Cs_goesBefore_83 (by decide) ⟨by omega, by omega⟩ ⟨by omega, by omega⟩ (fun c83 => ?_) (fun c83 => ?_)
      · refine lv_iconst (v := iZ 0) hx hb d_Cs_goesBefore_90 rfl ?_
        refine lv_istore (lv' := [(8, .int (iZ 0)), (7, .int (iZ 1)), (6, .int (iZ (acP M b))), (5, .int (iZ (acP M i))), (4, .ref (aTk A b)), (3, .ref (aTk A i)), (0, .ref a), (1, .int (iZ ((i : Int)))), (2, .int (iZ ((b : Int))))]) hx hb d_Cs_goesBefore_91 hl (by decide) rfl (fun ls hl => ?_)
        refine lv_iload hx hb d_Cs_goesBefore_93 (lv_at hl 1 rfl) ?_
        refine lv_iload hx hb d_Cs_goesBefore_95 (lv_at hl 0 rfl) ?_
        refine zz_icmp_eq (tgt := 103) hx hb d_Cs_goesBefore_97 (by decide) ⟨by omega, by omega⟩ ⟨by omega, by omega⟩ (fun c97 => ?_) (fun c97 => ?_)
        · exfalso; omega
        · refine lv_iload hx hb d_Cs_goesBefore_100 (lv_at hl 1 rfl) ?_
          exact ro_zret hx hb hr hlocks d_Cs_goesBefore_102 (bz1 (gbM_h1 c44 c66 c83))
      · refine lv_iconst (v := iZ 1) hx hb d_Cs_goesBefore_86 rfl ?_
        refine lv_goto (tgt := 91) hx hb d_Cs_goesBefore_87 (by decide) ?_
        refine lv_istore (lv' := [(8, .int (iZ 1)), (7, .int (iZ 1)), (6, .int (iZ (acP M b))), (5, .int (iZ (acP M i))), (4, .ref (aTk A b)), (3, .ref (aTk A i)), (0, .ref a), (1, .int (iZ ((i : Int)))), (2, .int (iZ ((b : Int))))]) hx hb d_Cs_goesBefore_91 hl (by decide) rfl (fun ls hl => ?_)
        refine lv_iload hx hb d_Cs_goesBefore_93 (lv_at hl 1 rfl) ?_
        refine lv_iload hx hb d_Cs_goesBefore_95 (lv_at hl 0 rfl) ?_
        refine zz_icmp_eq (tgt := 103) hx hb d_Cs_goesBefore_97 (by decide) ⟨by omega, by omega⟩ ⟨by omega, by omega⟩ (fun c97 => ?_) (fun c97 => ?_)
        · refine lv_iload_n hx hb d_Cs_goesBefore_103 rfl (lv_at hl 7 rfl) ?_
          refine lv_aload_n hx hb d_Cs_goesBefore_104 rfl (lv_at hl 6 rfl) ?_
          refine fw_get (ci := 4) (v := .ref (aHi A)) (C := rCs) (T := fCs) (N := 4) hx hb hts iCs hown hK hP hc0 rfl 2 (by decide) (hts _ t_126) (fun _ h9 => h9) rfl d_Cs_goesBefore_105 ?_
          refine fw_getN (ci := 0) (v := .int (iZ (hLr (mHi M)))) (C := rHi) (T := fHi) (N := 6) (index := 117) (ref := "CeilingScheduler$History") (host := "CeilingScheduler") hx hb hts iHi hown hK hP hhi rfl 4 (by decide) n_108 (fun _ h9 => h9) rfl d_Cs_goesBefore_108 ?_
          refine zz_icmp_eq (tgt := 125) hx hb d_Cs_goesBefore_111 (by decide) ⟨by omega, by omega⟩ ⟨by omega, by omega⟩ (fun c111 => ?_) (fun c111 => ?_)
          · refine lv_iload_n hx hb d_Cs_goesBefore_125 rfl (lv_at hl 7 rfl) ?_
            refine lv_aload_n hx hb d_Cs_goesBefore_126 rfl (lv_at hl 6 rfl) ?_
            refine fw_get (ci := 4) (v := .ref (aHi A)) (C := rCs) (T := fCs) (N := 4) hx hb hts iCs hown hK hP hc0 rfl 2 (by decide) (hts _ t_126) (fun _ h9 => h9) rfl d_Cs_goesBefore_127 ?_
            refine fw_getN (ci := 0) (v := .int (iZ (hLr (mHi M)))) (C := rHi) (T := fHi) (N := 6) (index := 117) (ref := "CeilingScheduler$History") (host := "CeilingScheduler") hx hb hts iHi hown hK hP hhi rfl 4 (by decide) n_108 (fun _ h9 => h9) rfl d_Cs_goesBefore_130 ?_
            refine zz_icmp_ne (tgt := 140) hx hb d_Cs_goesBefore_133 (by decide) ⟨by omega, by omega⟩ ⟨by omega, by omega⟩ (fun c133 => ?_) (fun c133 => ?_)
            · refine lv_iconst (v := iZ 0) hx hb d_Cs_goesBefore_140 rfl ?_
              exact ro_zret hx hb hr hlocks d_Cs_goesBefore_141 (bz0 (gbM_l0 c44 (by omega) (by omega) (by omega)))
            · refine lv_iconst (v := iZ 1) hx hb d_Cs_goesBefore_136 rfl ?_
              refine lv_goto (tgt := 141) hx hb d_Cs_goesBefore_137 (by decide) ?_
              exact ro_zret hx hb hr hlocks d_Cs_goesBefore_141 (bz1 (gbM_l1 c44 (by omega) (by omega)))
          · refine lv_iload_n hx hb d_Cs_goesBefore_114 rfl (lv_at hl 8 rfl) ?_
            refine lv_aload_n hx hb d_Cs_goesBefore_115 rfl (lv_at hl 6 rfl) ?_
            refine fw_get (ci := 4) (v := .ref (aHi A)) (C := rCs) (T := fCs) (N := 4) hx hb hts iCs hown hK hP hc0 rfl 2 (by decide) (hts _ t_126) (fun _ h9 => h9) rfl d_Cs_goesBefore_116 ?_
            refine fw_getN (ci := 0) (v := .int (iZ (hLr (mHi M)))) (C := rHi) (T := fHi) (N := 6) (index := 117) (ref := "CeilingScheduler$History") (host := "CeilingScheduler") hx hb hts iHi hown hK hP hhi rfl 4 (by decide) n_108 (fun _ h9 => h9) rfl d_Cs_goesBefore_119 ?_
            refine zz_icmp_ne (tgt := 142) hx hb d_Cs_goesBefore_122 (by decide) ⟨by omega, by omega⟩ ⟨by omega, by omega⟩ (fun c122 => ?_) (fun c122 => ?_)
            · refine lv_aload_n hx hb d_Cs_goesBefore_142 rfl (lv_at hl 5 rfl) ?_
              refine fw_getN (ci := 3) (v := .ref (aJq A i)) (C := rTa) (T := fTa) (N := 8) (index := 89) (ref := "CeilingScheduler$Task") (host := "CeilingScheduler") hx hb hts iTa hown hK hP kti rfl 6 (by decide) n_205 (fun _ h9 => h9) rfl d_Cs_goesBefore_143 ?_
              refine fw_ro (r := .int (iZ (frM M i))) (va_runVN (As := []) (rest := []) ⟨hx, hb, hml, hown, hts⟩ (c_Jq_front l g w (aJq A i) (aRa A i) (dFr (mTd M i)) (dNd (mTd M i)) (dUf (mTd M i)) (dRl (mTd M i)) (dLr (mTd M i)) (dDl (mTd M i)) (dGr (mTd M i)) (dRel (mTd M i)) kjqi krai rfri) ⟨va_cnB 0 hts (gdT k_Jq_releaseOfFront) rfl rfl rfl (hK.2.1 _ n_413) (hts _ t_52) (by decide +kernel) ⟨Nat.le_of_ble_eq_true rfl, Nat.le_of_ble_eq_true rfl⟩, hts _ t_415, hts _ t_20⟩ ⟨roP_blind, fw_recv hK hP kjqi rfl, roP_pre hK hP⟩ rfl rfl hl.1 rfl (lv_room (Nat.le_of_ble_eq_true rfl)) d_Cs_goesBefore_146 ⟨by decide, by decide⟩) ?_
              refine lv_aload hx hb d_Cs_goesBefore_149 (lv_at hl 4 rfl) ?_
              refine fw_getN (ci := 3) (v := .ref (aJq A b)) (C := rTa) (T := fTa) (N := 8) (index := 89) (ref := "CeilingScheduler$Task") (host := "CeilingScheduler") hx hb hts iTa hown hK hP ktb rfl 6 (by decide) n_205 (fun _ h9 => h9) rfl d_Cs_goesBefore_151 ?_
              refine fw_ro (r := .int (iZ (frM M b))) (va_runVN (As := []) (rest := [.int (iZ (frM M i))]) ⟨hx, hb, hml, hown, hts⟩ (c_Jq_front l g w (aJq A b) (aRa A b) (dFr (mTd M b)) (dNd (mTd M b)) (dUf (mTd M b)) (dRl (mTd M b)) (dLr (mTd M b)) (dDl (mTd M b)) (dGr (mTd M b)) (dRel (mTd M b)) kjqb krab rfrb) ⟨va_cnB 0 hts (gdT k_Jq_releaseOfFront) rfl rfl rfl (hK.2.1 _ n_413) (hts _ t_52) (by decide +kernel) ⟨Nat.le_of_ble_eq_true rfl, Nat.le_of_ble_eq_true rfl⟩, hts _ t_415, hts _ t_20⟩ ⟨roP_blind, fw_recv hK hP kjqb rfl, roP_pre hK hP⟩ rfl rfl hl.1 rfl (lv_room (Nat.le_of_ble_eq_true rfl)) d_Cs_goesBefore_154 ⟨by decide, by decide⟩) ?_
              refine zz_icmp_ge (tgt := 164) hx hb d_Cs_goesBefore_157 (by decide) ⟨by omega, by omega⟩ ⟨by omega, by omega⟩ (fun c157 => ?_) (fun c157 => ?_)
              · refine lv_iconst (v := iZ 0) hx hb d_Cs_goesBefore_164 rfl ?_
                exact ro_zret hx hb hr hlocks d_Cs_goesBefore_165 (bz0 (by rw [gbM_r c44 (by omega) (by omega) (by omega)]; exact decide_eq_false (by omega)))
              · refine lv_iconst (v := iZ 1) hx hb d_Cs_goesBefore_160 rfl ?_
                refine lv_goto (tgt := 165) hx hb d_Cs_goesBefore_161 (by decide) ?_
                exact ro_zret hx hb hr hlocks d_Cs_goesBefore_165 (bz1 (by rw [gbM_r c44 (by omega) (by omega) (by omega)]; exact decide_eq_true (by omega)))
            · refine lv_iload_n hx hb d_Cs_goesBefore_125 rfl (lv_at hl 7 rfl) ?_
              refine lv_aload_n hx hb d_Cs_goesBefore_126 rfl (lv_at hl 6 rfl) ?_
              refine fw_get (ci := 4) (v := .ref (aHi A)) (C := rCs) (T := fCs) (N := 4) hx hb hts iCs hown hK hP hc0 rfl 2 (by decide) (hts _ t_126) (fun _ h9 => h9) rfl d_Cs_goesBefore_127 ?_
              refine fw_getN (ci := 0) (v := .int (iZ (hLr (mHi M)))) (C := rHi) (T := fHi) (N := 6) (index := 117) (ref := "CeilingScheduler$History") (host := "CeilingScheduler") hx hb hts iHi hown hK hP hhi rfl 4 (by decide) n_108 (fun _ h9 => h9) rfl d_Cs_goesBefore_130 ?_
              refine zz_icmp_ne (tgt := 140) hx hb d_Cs_goesBefore_133 (by decide) ⟨by omega, by omega⟩ ⟨by omega, by omega⟩ (fun c133 => ?_) (fun c133 => ?_)
              · refine lv_iconst (v := iZ 0) hx hb d_Cs_goesBefore_140 rfl ?_
                exact ro_zret hx hb hr hlocks d_Cs_goesBefore_141 (bz0 (gbM_l0 c44 (by omega) (by omega) (by omega)))
              · refine lv_iconst (v := iZ 1) hx hb d_Cs_goesBefore_136 rfl ?_
                refine lv_goto (tgt := 141) hx hb d_Cs_goesBefore_137 (by decide) ?_
                exact ro_zret hx hb hr hlocks d_Cs_goesBefore_141 (bz1 (gbM_l1 c44 (by omega) (by omega)))
        · exfalso; omega
  · refine lv_iload hx hb d_Cs_goesBefore_47 (lv_at hl 1 rfl) ?_
    refine lv_iload hx hb d_Cs_goesBefore_49 (lv_at hl 0 rfl) ?_
    refine zz_icmp_le (tgt := 58) hx hb d_Cs_goesBefore_51 (by decide) ⟨by omega, by omega⟩ ⟨by omega, by omega⟩ (fun c51 => ?_) (fun c51 => ?_)
    · refine lv_iconst (v := iZ 0) hx hb d_Cs_goesBefore_58 rfl ?_
      exact ro_zret hx hb hr hlocks d_Cs_goesBefore_59 (bz0 (by rw [gbM, if_pos c44]; exact decide_eq_false (by omega)))
    · refine lv_iconst (v := iZ 1) hx hb d_Cs_goesBefore_54 rfl ?_
      refine lv_goto (tgt := 59) hx hb d_Cs_goesBefore_55 (by decide) ?_
      exact ro_zret hx hb hr hlocks d_Cs_goesBefore_59 (bz1 (by rw [gbM, if_pos c44]; exact decide_eq_true (by omega)))

set_option maxHeartbeats 4000000 in
set_option maxRecDepth 100000 in
theorem c_Cs_longest (l : Launch) (g : GG) (w : fw) (a : Nat) (A : ADT) (M : CsM) (tb : Int) (i : Nat) (lc : Int) (hC : CsP g w a A M) (hI : CsI M tb) (hi : i < mN M) (hr_0 : ir lc) : RO l y_Cs_longestSectionFrom w_Cs_longestSectionFrom ({ frames := 3, cells := 0, slots := 0, locals := 64 }) g w [.ref a, .ref (aTk A i), .int (iZ lc)] (.int (iZ (lsF (mCe M) (mSc M i) lc (mNs M i) 0 0))) := by
  refine ro_go (by decide) rfl (Nat.le_of_ble_eq_true rfl) ?_
  intro p e s m below meth c hx hb hr hml hown hts hlocks hK hP ls hl
  have hown : s.vm.findClass rCs = some m.cls := hown
  have hl : lv_has ls 6 [(0, .ref a), (1, .ref (aTk A i)), (2, .int (iZ lc))] := hl
  have hI0 := hI
  have hc0 := hC.c0
  have htl := hC.tl
  have hca := hC.ca
  have hhi := hC.hi
  have hha := hC.ha
  obtain ⟨itb, in6, iti, ilr, iln, ice, itk⟩ := hI
  obtain ⟨hr_0a, hr_0b⟩ := hr_0
  obtain ⟨kti, ksli, ks0i, ksei, kqfi, ksai, kjqi, krai⟩ := hC.tk i hi
  obtain ⟨rperi, rcsti, rddli, rprii, rnsi, rSi, rnxi, rfri, rndi, rufi, rrli, rlri, rgri, rrei, rlxi⟩ := itk i hi
  refine lv_iconst (v := iZ 0) hx hb d_Cs_longestSectionFrom_0 rfl ?_
  refine lv_istore_n (lv' := [(3, .int (iZ 0)), (0, .ref a), (1, .ref (aTk A i)), (2, .int (iZ lc))]) hx hb d_Cs_longestSectionFrom_1 rfl hl (by decide) rfl (fun ls hl => ?_)
  refine lv_iconst (v := iZ 0) hx hb d_Cs_longestSectionFrom_2 rfl ?_
  refine lv_istore (lv' := [(4, .int (iZ 0)), (3, .int (iZ 0)), (0, .ref a), (1, .ref (aTk A i)), (2, .int (iZ lc))]) hx hb d_Cs_longestSectionFrom_3 hl (by decide) rfl (fun ls hl => ?_)
  have lp : ∀ (f j : Nat) (k : Int), j + f = mNs M i → (lsF (mCe M) (mSc M i) lc (mNs M i) 0 0 = lsF (mCe M) (mSc M i) lc f j k) → (0 ≤ k ∧ k ≤ 60) → ∀ ls : Array Slot, lv_has ls 6 [(4, .int (iZ ((j : Int)))), (3, .int (iZ k)), (0, .ref a), (1, .ref (aTk A i)), (2, .int (iZ lc))] → W p l e ({ frames := 3, cells := 0, slots := 0, locals := 64 }) s m ([.ref a, .ref (aTk A i), .int (iZ lc)] : List Value).toArray below meth c s.heap [] 0 0 (MQ below (k2_QcV (.int (iZ (lsF (mCe M) (mSc M i) lc (mNs M i) 0 0)))) ([.ref a, .ref (aTk A i), .int (iZ lc)] : List Value).toArray s 0 0 (fun _ => False)) (F0 m 5 ls []) := by
    intro f
    induction f with
    | zero =>
      intro j k hif hv hk ls hl
      refine lv_iload hx hb d_Cs_longestSectionFrom_5 (lv_at hl 0 rfl) ?_
      refine lv_aload_n hx hb d_Cs_longestSectionFrom_7 rfl (lv_at hl 3 rfl) ?_
      refine fw_getN (ci := 3) (v := .ref (aSl A i)) (C := rTa) (T := fTa) (N := 8) (index := 74) (ref := "CeilingScheduler$Task") (host := "CeilingScheduler") hx hb hts iTa hown hK hP kti rfl 5 (by decide) n_203 (fun _ h9 => h9) rfl d_Cs_longestSectionFrom_8 ?_
      refine fw_ro (r := .int (iZ ((mNs M i : Int)))) (va_runV (As := []) (rest := [.int (iZ ((j : Int)))]) ⟨hx, hb, hml, hown, hts⟩ (c_AL_size l g w (aSl A i) (aSe A i) (aMs A i) ((mNs M i : Int)) ksli) (cwV 0 hts (gdV k_AL_size t_144 t_145 t_146 t_48) rfl rfl rfl (by decide +kernel) ⟨Nat.le_of_ble_eq_true rfl, Nat.le_of_ble_eq_true rfl⟩) ⟨roP_blind, fw_recv hK hP ksli rfl, roP_pre hK hP⟩ rfl rfl hl.1 rfl (lv_room (Nat.le_of_ble_eq_true rfl)) d_Cs_longestSectionFrom_11 ⟨by decide, by decide⟩) ?_
      refine zz_icmp_ge (tgt := 61) hx hb d_Cs_longestSectionFrom_14 (by decide) ⟨by omega, by omega⟩ ⟨by omega, by omega⟩ (fun c14 => ?_) (fun c14 => ?_)
      · refine lv_iload_n hx hb d_Cs_longestSectionFrom_61 rfl (lv_at hl 1 rfl) ?_
        exact ro_iret hx hb hr hlocks d_Cs_longestSectionFrom_62 (congrArg iZ (by rw [hv]; rfl))
      · exfalso; omega
    | succ f ih =>
      intro j k hif hv hk ls hl
      refine lv_iload hx hb d_Cs_longestSectionFrom_5 (lv_at hl 0 rfl) ?_
      refine lv_aload_n hx hb d_Cs_longestSectionFrom_7 rfl (lv_at hl 3 rfl) ?_
      refine fw_getN (ci := 3) (v := .ref (aSl A i)) (C := rTa) (T := fTa) (N := 8) (index := 74) (ref := "CeilingScheduler$Task") (host := "CeilingScheduler") hx hb hts iTa hown hK hP kti rfl 5 (by decide) n_203 (fun _ h9 => h9) rfl d_Cs_longestSectionFrom_8 ?_
      refine fw_ro (r := .int (iZ ((mNs M i : Int)))) (va_runV (As := []) (rest := [.int (iZ ((j : Int)))]) ⟨hx, hb, hml, hown, hts⟩ (c_AL_size l g w (aSl A i) (aSe A i) (aMs A i) ((mNs M i : Int)) ksli) (cwV 0 hts (gdV k_AL_size t_144 t_145 t_146 t_48) rfl rfl rfl (by decide +kernel) ⟨Nat.le_of_ble_eq_true rfl, Nat.le_of_ble_eq_true rfl⟩) ⟨roP_blind, fw_recv hK hP ksli rfl, roP_pre hK hP⟩ rfl rfl hl.1 rfl (lv_room (Nat.le_of_ble_eq_true rfl)) d_Cs_longestSectionFrom_11 ⟨by decide, by decide⟩) ?_
      refine zz_icmp_ge (tgt := 61) hx hb d_Cs_longestSectionFrom_14 (by decide) ⟨by omega, by omega⟩ ⟨by omega, by omega⟩ (fun c14 => ?_) (fun c14 => ?_)
      · exfalso; omega
      · refine lv_aload_n hx hb d_Cs_longestSectionFrom_17 rfl (lv_at hl 3 rfl) ?_
        refine fw_getN (ci := 3) (v := .ref (aSl A i)) (C := rTa) (T := fTa) (N := 8) (index := 74) (ref := "CeilingScheduler$Task") (host := "CeilingScheduler") hx hb hts iTa hown hK hP kti rfl 5 (by decide) n_203 (fun _ h9 => h9) rfl d_Cs_longestSectionFrom_18 ?_
        refine lv_iload hx hb d_Cs_longestSectionFrom_21 (lv_at hl 0 rfl) ?_
        refine fw_ro (r := .ref (aSa A i j)) (va_runV (As := [.int (iZ ((j : Int)))]) (rest := []) ⟨hx, hb, hml, hown, hts⟩ (c_AL_get l g w (aSl A i) (aSe A i) (aMs A i) (mNs M i) (aQs A i) j (aSa A i j) ksli (ksei (by omega)) (by omega) (by omega) (kqfi j (by omega))) (cwV 1 hts (gdV k_AL_get t_289 t_290 t_291 t_48) rfl rfl rfl (by decide +kernel) ⟨Nat.le_of_ble_eq_true rfl, Nat.le_of_ble_eq_true rfl⟩) ⟨roP_blind, fw_recv hK hP ksli rfl, roP_pre hK hP⟩ rfl rfl hl.1 rfl (lv_room (Nat.le_of_ble_eq_true rfl)) d_Cs_longestSectionFrom_23 ⟨by decide, by decide⟩) ?_
        have ks_j := ksai j (by omega)
        have rS_j := rSi j (by omega)
        refine fw_cast (T := fSe) (N := 3) hx hb hown (hts _ t_323) hK hP ks_j rfl d_Cs_longestSectionFrom_26 ?_
        refine lv_astore (lv' := [(5, .ref (aSa A i j)), (4, .int (iZ ((j : Int)))), (3, .int (iZ k)), (0, .ref a), (1, .ref (aTk A i)), (2, .int (iZ lc))]) hx hb d_Cs_longestSectionFrom_29 hl (by decide) rfl (fun ls hl => ?_)
        refine lv_aload_n hx hb d_Cs_longestSectionFrom_31 rfl (lv_at hl 3 rfl) ?_
        refine fw_get (ci := 4) (v := .ref (aCa A)) (C := rCs) (T := fCs) (N := 4) hx hb hts iCs hown hK hP hc0 rfl 1 (by decide) (hts _ t_125) (fun _ h9 => h9) rfl d_Cs_longestSectionFrom_32 ?_
        refine lv_aload hx hb d_Cs_longestSectionFrom_35 (lv_at hl 0 rfl) ?_
        refine fw_getN (ci := 2) (v := .int (iZ ((mSc M i j).1))) (C := rSe) (T := fSe) (N := 3) (index := 183) (ref := "CeilingScheduler$Section") (host := "CeilingScheduler") hx hb hts iSe hown hK hP ks_j rfl 0 (by decide) n_331 (fun _ h9 => h9) rfl d_Cs_longestSectionFrom_37 ?_
        have hce := ice (mSc M i j).1.toNat
        refine fw_iald hx hb hK hP hca (by decide) (((mSc M i j).1.toNat)) (by omega) (by omega) d_Cs_longestSectionFrom_40 ?_
        refine lv_iload_n hx hb d_Cs_longestSectionFrom_41 rfl (lv_at hl 5 rfl) ?_
        refine zz_icmp_lt (tgt := 55) hx hb d_Cs_longestSectionFrom_42 (by decide) ⟨by omega, by omega⟩ ⟨by omega, by omega⟩ (fun c42 => ?_) (fun c42 => ?_)
        · refine lv_iinc (v := iZ (((j : Int)) + 1)) (lv' := [(4, .int (iZ (((j : Int)) + 1))), (5, .ref (aSa A i j)), (3, .int (iZ k)), (0, .ref a), (1, .ref (aTk A i)), (2, .int (iZ lc))]) hx hb d_Cs_longestSectionFrom_55 hl (k := 1) rfl (iZ_add _ _) (by decide) rfl (fun ls hl => ?_)
          refine lv_goto (tgt := 5) hx hb d_Cs_longestSectionFrom_58 (by decide) ?_
          exact ih (j + 1) k (by omega) (by rw [hv, lsF, if_neg (by omega)]) (by omega) ls (lv_sub hl [0, 2, 3, 4, 5] rfl)
        · refine lv_iload_n hx hb d_Cs_longestSectionFrom_45 rfl (lv_at hl 2 rfl) ?_
          refine lv_aload hx hb d_Cs_longestSectionFrom_46 (lv_at hl 0 rfl) ?_
          refine fw_getN (ci := 2) (v := .int (iZ ((mSc M i j).2.2))) (C := rSe) (T := fSe) (N := 3) (index := 186) (ref := "CeilingScheduler$Section") (host := "CeilingScheduler") hx hb hts iSe hown hK hP ks_j rfl 2 (by decide) n_336 (fun _ h9 => h9) rfl d_Cs_longestSectionFrom_48 ?_
          refine va_mmax hx hb (by rw [hml]; exact hl.1.symm) hown (hts _ t_310) (hts _ t_244) (hts _ t_54) (hts _ k_Ma_max) (Nat.le_of_ble_eq_true rfl) (Nat.le_of_ble_eq_true rfl) (Nat.le_of_ble_eq_true rfl) (Nat.le_of_ble_eq_true rfl) d_Cs_longestSectionFrom_51 ?_
          rw [iZ_max ⟨by omega, by omega⟩ ⟨by omega, by omega⟩]
          refine lv_istore_n (lv' := [(3, .int (iZ (max k ((mSc M i j).2.2)))), (5, .ref (aSa A i j)), (4, .int (iZ ((j : Int)))), (0, .ref a), (1, .ref (aTk A i)), (2, .int (iZ lc))]) hx hb d_Cs_longestSectionFrom_54 rfl hl (by decide) rfl (fun ls hl => ?_)
          refine lv_iinc (v := iZ (((j : Int)) + 1)) (lv' := [(4, .int (iZ (((j : Int)) + 1))), (3, .int (iZ (max k ((mSc M i j).2.2)))), (5, .ref (aSa A i j)), (0, .ref a), (1, .ref (aTk A i)), (2, .int (iZ lc))]) hx hb d_Cs_longestSectionFrom_55 hl (k := 2) rfl (iZ_add _ _) (by decide) rfl (fun ls hl => ?_)
          refine lv_goto (tgt := 5) hx hb d_Cs_longestSectionFrom_58 (by decide) ?_
          exact ih (j + 1) (max k ((mSc M i j).2.2)) (by omega) (by rw [hv, lsF, if_pos (by omega)]) (by omega) ls (lv_sub hl [0, 1, 3, 4, 5] rfl)
  exact lp (mNs M i) 0 0 (by omega) rfl (by omega) ls (lv_sub hl [0, 1, 2, 3, 4] rfl)

set_option maxHeartbeats 4000000 in
set_option maxRecDepth 100000 in
theorem c_Cs_blockOf (l : Launch) (g : GG) (w : fw) (a : Nat) (A : ADT) (M : CsM) (tb : Int) (t : Nat) (hC : CsP g w a A M) (hI : CsI M tb) (ht : t < mN M) : RO l y_Cs_blockingOf w_Cs_blockingOf ({ frames := 4, cells := 0, slots := 0, locals := 89 }) g w [.ref a, .ref (aTk A t)] (.int (iZ (bkM M t))) := by
  refine ro_go (by decide) rfl (Nat.le_of_ble_eq_true rfl) ?_
  intro p e s m below meth c hx hb hr hml hown hts hlocks hK hP ls hl
  have hown : s.vm.findClass rCs = some m.cls := hown
  have hl : lv_has ls 5 [(0, .ref a), (1, .ref (aTk A t))] := hl
  have hI0 := hI
  have hc0 := hC.c0
  have htl := hC.tl
  have hca := hC.ca
  have hhi := hC.hi
  have hha := hC.ha
  obtain ⟨itb, in6, iti, ilr, iln, ice, itk⟩ := hI
  obtain ⟨ktt, kslt, ks0t, kset, kqft, ksat, kjqt, krat⟩ := hC.tk t ht
  obtain ⟨rpert, rcstt, rddlt, rprit, rnst, rSt, rnxt, rfrt, rndt, ruft, rrlt, rlrt, rgrt, rret, rlxt⟩ := itk t ht
  refine lv_iconst (v := iZ 0) hx hb d_Cs_blockingOf_0 rfl ?_
  refine lv_istore_n (lv' := [(2, .int (iZ 0)), (0, .ref a), (1, .ref (aTk A t))]) hx hb d_Cs_blockingOf_1 rfl hl (by decide) rfl (fun ls hl => ?_)
  refine lv_iconst (v := iZ 0) hx hb d_Cs_blockingOf_2 rfl ?_
  refine lv_istore_n (lv' := [(3, .int (iZ 0)), (2, .int (iZ 0)), (0, .ref a), (1, .ref (aTk A t))]) hx hb d_Cs_blockingOf_3 rfl hl (by decide) rfl (fun ls hl => ?_)
  have lp : ∀ (f i : Nat) (k : Int), i + f = mN M → (bkM M t = bkF M (sPri (mTs M t)) f i k) → (0 ≤ k ∧ k ≤ 60) → ∀ ls : Array Slot, lv_has ls 5 [(3, .int (iZ ((i : Int)))), (2, .int (iZ k)), (0, .ref a), (1, .ref (aTk A t))] → W p l e ({ frames := 4, cells := 0, slots := 0, locals := 89 }) s m ([.ref a, .ref (aTk A t)] : List Value).toArray below meth c s.heap [] 0 0 (MQ below (k2_QcV (.int (iZ (bkM M t)))) ([.ref a, .ref (aTk A t)] : List Value).toArray s 0 0 (fun _ => False)) (F0 m 4 ls []) := by
    intro f
    induction f with
    | zero =>
      intro i k hif hv hk ls hl
      refine lv_iload_n hx hb d_Cs_blockingOf_4 rfl (lv_at hl 0 rfl) ?_
      refine lv_aload_n hx hb d_Cs_blockingOf_5 rfl (lv_at hl 2 rfl) ?_
      refine fw_get (ci := 4) (v := .ref (aTl A)) (C := rCs) (T := fCs) (N := 4) hx hb hts iCs hown hK hP hc0 rfl 0 (by decide) (hts _ t_124) (fun _ h9 => h9) rfl d_Cs_blockingOf_6 ?_
      refine fw_ro (r := .int (iZ ((mN M : Int)))) (va_runV (As := []) (rest := [.int (iZ ((i : Int)))]) ⟨hx, hb, hml, hown, hts⟩ (c_AL_size l g w (aTl A) (aTe A) (aMo A) ((mN M : Int)) htl) (cwV 0 hts (gdV k_AL_size t_144 t_145 t_146 t_48) rfl rfl rfl (by decide +kernel) ⟨Nat.le_of_ble_eq_true rfl, Nat.le_of_ble_eq_true rfl⟩) ⟨roP_blind, fw_recv hK hP htl rfl, roP_pre hK hP⟩ rfl rfl hl.1 rfl (lv_room (Nat.le_of_ble_eq_true rfl)) d_Cs_blockingOf_9 ⟨by decide, by decide⟩) ?_
      refine zz_icmp_ge (tgt := 61) hx hb d_Cs_blockingOf_12 (by decide) ⟨by omega, by omega⟩ ⟨by omega, by omega⟩ (fun c12 => ?_) (fun c12 => ?_)
      · refine lv_iload_n hx hb d_Cs_blockingOf_61 rfl (lv_at hl 1 rfl) ?_
        exact ro_iret hx hb hr hlocks d_Cs_blockingOf_62 (congrArg iZ (by rw [hv]; rfl))
      · exfalso; omega
    | succ f ih =>
      intro i k hif hv hk ls hl
      refine lv_iload_n hx hb d_Cs_blockingOf_4 rfl (lv_at hl 0 rfl) ?_
      refine lv_aload_n hx hb d_Cs_blockingOf_5 rfl (lv_at hl 2 rfl) ?_
      refine fw_get (ci := 4) (v := .ref (aTl A)) (C := rCs) (T := fCs) (N := 4) hx hb hts iCs hown hK hP hc0 rfl 0 (by decide) (hts _ t_124) (fun _ h9 => h9) rfl d_Cs_blockingOf_6 ?_
      refine fw_ro (r := .int (iZ ((mN M : Int)))) (va_runV (As := []) (rest := [.int (iZ ((i : Int)))]) ⟨hx, hb, hml, hown, hts⟩ (c_AL_size l g w (aTl A) (aTe A) (aMo A) ((mN M : Int)) htl) (cwV 0 hts (gdV k_AL_size t_144 t_145 t_146 t_48) rfl rfl rfl (by decide +kernel) ⟨Nat.le_of_ble_eq_true rfl, Nat.le_of_ble_eq_true rfl⟩) ⟨roP_blind, fw_recv hK hP htl rfl, roP_pre hK hP⟩ rfl rfl hl.1 rfl (lv_room (Nat.le_of_ble_eq_true rfl)) d_Cs_blockingOf_9 ⟨by decide, by decide⟩) ?_
      refine zz_icmp_ge (tgt := 61) hx hb d_Cs_blockingOf_12 (by decide) ⟨by omega, by omega⟩ ⟨by omega, by omega⟩ (fun c12 => ?_) (fun c12 => ?_)
      · exfalso; omega
      · refine lv_aload_n hx hb d_Cs_blockingOf_15 rfl (lv_at hl 2 rfl) ?_
        refine fw_get (ci := 4) (v := .ref (aTl A)) (C := rCs) (T := fCs) (N := 4) hx hb hts iCs hown hK hP hc0 rfl 0 (by decide) (hts _ t_124) (fun _ h9 => h9) rfl d_Cs_blockingOf_16 ?_
        refine lv_iload_n hx hb d_Cs_blockingOf_19 rfl (lv_at hl 0 rfl) ?_
        refine fw_ro (r := .ref (aTk A i)) (va_runV (As := [.int (iZ ((i : Int)))]) (rest := []) ⟨hx, hb, hml, hown, hts⟩ (c_AL_get l g w (aTl A) (aTe A) (aMo A) (mN M) (aQf A) i (aTk A i) htl (hC.te (by omega)) (by omega) (by omega) (hC.qf i (by omega))) (cwV 1 hts (gdV k_AL_get t_289 t_290 t_291 t_48) rfl rfl rfl (by decide +kernel) ⟨Nat.le_of_ble_eq_true rfl, Nat.le_of_ble_eq_true rfl⟩) ⟨roP_blind, fw_recv hK hP htl rfl, roP_pre hK hP⟩ rfl rfl hl.1 rfl (lv_room (Nat.le_of_ble_eq_true rfl)) d_Cs_blockingOf_20 ⟨by decide, by decide⟩) ?_
        obtain ⟨kti, ksli, ks0i, ksei, kqfi, ksai, kjqi, krai⟩ := hC.tk i (by omega)
        obtain ⟨rperi, rcsti, rddli, rprii, rnsi, rSi, rnxi, rfri, rndi, rufi, rrli, rlri, rgri, rrei, rlxi⟩ := itk i (by omega)
        refine fw_cast (T := fTa) (N := 8) hx hb hown (hts _ t_148) hK hP kti rfl d_Cs_blockingOf_23 ?_
        refine lv_astore (lv' := [(4, .ref (aTk A i)), (3, .int (iZ ((i : Int)))), (2, .int (iZ k)), (0, .ref a), (1, .ref (aTk A t))]) hx hb d_Cs_blockingOf_26 hl (by decide) rfl (fun ls hl => ?_)
        refine lv_aload hx hb d_Cs_blockingOf_28 (lv_at hl 0 rfl) ?_
        refine fw_getN (ci := 3) (v := .int (iZ (sPri (mTs M i)))) (C := rTa) (T := fTa) (N := 8) (index := 71) (ref := "CeilingScheduler$Task") (host := "CeilingScheduler") hx hb hts iTa hown hK hP kti rfl 3 (by decide) n_199 (fun _ h9 => h9) rfl d_Cs_blockingOf_30 ?_
        refine lv_aload_n hx hb d_Cs_blockingOf_33 rfl (lv_at hl 4 rfl) ?_
        refine fw_getN (ci := 3) (v := .int (iZ (sPri (mTs M t)))) (C := rTa) (T := fTa) (N := 8) (index := 71) (ref := "CeilingScheduler$Task") (host := "CeilingScheduler") hx hb hts iTa hown hK hP ktt rfl 3 (by decide) n_199 (fun _ h9 => h9) rfl d_Cs_blockingOf_34 ?_
        refine zz_icmp_ge (tgt := 55) hx hb d_Cs_blockingOf_37 (by decide) ⟨by omega, by omega⟩ ⟨by omega, by omega⟩ (fun c37 => ?_) (fun c37 => ?_)
        · refine lv_iinc (v := iZ (((i : Int)) + 1)) (lv' := [(3, .int (iZ (((i : Int)) + 1))), (4, .ref (aTk A i)), (2, .int (iZ k)), (0, .ref a), (1, .ref (aTk A t))]) hx hb d_Cs_blockingOf_55 hl (k := 1) rfl (iZ_add _ _) (by decide) rfl (fun ls hl => ?_)
          refine lv_goto (tgt := 4) hx hb d_Cs_blockingOf_58 (by decide) ?_
          exact ih (i + 1) k (by omega) (by rw [hv, bkF, if_neg (by omega)]) (by omega) ls (lv_sub hl [0, 2, 3, 4] rfl)
        · refine lv_iload_n hx hb d_Cs_blockingOf_40 rfl (lv_at hl 2 rfl) ?_
          refine lv_aload_n hx hb d_Cs_blockingOf_41 rfl (lv_at hl 3 rfl) ?_
          refine lv_aload hx hb d_Cs_blockingOf_42 (lv_at hl 0 rfl) ?_
          refine lv_aload_n hx hb d_Cs_blockingOf_44 rfl (lv_at hl 4 rfl) ?_
          refine fw_getN (ci := 3) (v := .int (iZ (sPri (mTs M t)))) (C := rTa) (T := fTa) (N := 8) (index := 71) (ref := "CeilingScheduler$Task") (host := "CeilingScheduler") hx hb hts iTa hown hK hP ktt rfl 3 (by decide) n_199 (fun _ h9 => h9) rfl d_Cs_blockingOf_45 ?_
          refine fw_ro (r := .int (iZ (lsF (mCe M) (mSc M i) (sPri (mTs M t)) (mNs M i) 0 0))) (va_runV (As := [.ref (aTk A i), .int (iZ (sPri (mTs M t)))]) (rest := [.int (iZ k)]) ⟨hx, hb, hml, hown, hts⟩ (c_Cs_longest l g w a A M tb i (sPri (mTs M t)) hC hI0 (by omega) ⟨by omega, by omega⟩) (cwV 2 hts (gdV k_Cs_longestSectionFrom t_482 t_484 t_31 t_45) rfl rfl rfl (by decide +kernel) ⟨Nat.le_of_ble_eq_true rfl, Nat.le_of_ble_eq_true rfl⟩) ⟨roP_blind, fw_recv hK hP hc0 rfl, roP_pre hK hP⟩ rfl rfl hl.1 rfl (lv_room (Nat.le_of_ble_eq_true rfl)) d_Cs_blockingOf_48 ⟨by decide, by decide⟩) ?_
          have hls := lsF_rng (mCe M) (mSc M i) (sPri (mTs M t)) (mNs M i) 0 0 (fun j hj => rSi j (by omega)) (by omega)
          refine va_mmax hx hb (by rw [hml]; exact hl.1.symm) hown (hts _ t_310) (hts _ t_244) (hts _ t_54) (hts _ k_Ma_max) (Nat.le_of_ble_eq_true rfl) (Nat.le_of_ble_eq_true rfl) (Nat.le_of_ble_eq_true rfl) (Nat.le_of_ble_eq_true rfl) d_Cs_blockingOf_51 ?_
          rw [iZ_max ⟨by omega, by omega⟩ ⟨by omega, by omega⟩]
          refine lv_istore_n (lv' := [(2, .int (iZ (max k (lsF (mCe M) (mSc M i) (sPri (mTs M t)) (mNs M i) 0 0)))), (4, .ref (aTk A i)), (3, .int (iZ ((i : Int)))), (0, .ref a), (1, .ref (aTk A t))]) hx hb d_Cs_blockingOf_54 rfl hl (by decide) rfl (fun ls hl => ?_)
          refine lv_iinc (v := iZ (((i : Int)) + 1)) (lv' := [(3, .int (iZ (((i : Int)) + 1))), (2, .int (iZ (max k (lsF (mCe M) (mSc M i) (sPri (mTs M t)) (mNs M i) 0 0)))), (4, .ref (aTk A i)), (0, .ref a), (1, .ref (aTk A t))]) hx hb d_Cs_blockingOf_55 hl (k := 2) rfl (iZ_add _ _) (by decide) rfl (fun ls hl => ?_)
          refine lv_goto (tgt := 4) hx hb d_Cs_blockingOf_58 (by decide) ?_
          exact ih (i + 1) (max k (lsF (mCe M) (mSc M i) (sPri (mTs M t)) (mNs M i) 0 0)) (by omega) (by rw [hv, bkF, if_pos (by omega)]) (by omega) ls (lv_sub hl [0, 1, 3, 4] rfl)
  exact lp (mN M) 0 0 (by omega) rfl (by omega) ls (lv_sub hl [0, 1, 2, 3] rfl)

set_option maxHeartbeats 4000000 in
set_option maxRecDepth 100000 in
theorem c_Cs_others (l : Launch) (g : GG) (w : fw) (a : Nat) (A : ADT) (M : CsM) (tb : Int) (t : Nat) (r : Int) (hC : CsP g w a A M) (hI : CsI M tb) (ht : t < mN M) (hr1 : 0 ≤ r ∧ r ≤ 60) : RO l y_Cs_timeOfOthers w_Cs_timeOfOthers ({ frames := 3, cells := 0, slots := 0, locals := 64 }) g w [.ref a, .int (iZ ((t : Int))), .int (iZ r)] (.int (iZ (toM M t r))) := by
  refine ro_go (by decide) rfl (Nat.le_of_ble_eq_true rfl) ?_
  intro p e s m below meth c hx hb hr hml hown hts hlocks hK hP ls hl
  have hown : s.vm.findClass rCs = some m.cls := hown
  have hl : lv_has ls 7 [(0, .ref a), (1, .int (iZ ((t : Int)))), (2, .int (iZ r))] := hl
  have hI0 := hI
  have hc0 := hC.c0
  have htl := hC.tl
  have hca := hC.ca
  have hhi := hC.hi
  have hha := hC.ha
  obtain ⟨itb, in6, iti, ilr, iln, ice, itk⟩ := hI
  refine lv_aload_n hx hb d_Cs_timeOfOthers_0 rfl (lv_at hl 0 rfl) ?_
  refine fw_get (ci := 4) (v := .ref (aTl A)) (C := rCs) (T := fCs) (N := 4) hx hb hts iCs hown hK hP hc0 rfl 0 (by decide) (hts _ t_124) (fun _ h9 => h9) rfl d_Cs_timeOfOthers_1 ?_
  refine lv_iload_n hx hb d_Cs_timeOfOthers_4 rfl (lv_at hl 1 rfl) ?_
  refine fw_ro (r := .ref (aTk A t)) (va_runV (As := [.int (iZ ((t : Int)))]) (rest := []) ⟨hx, hb, hml, hown, hts⟩ (c_AL_get l g w (aTl A) (aTe A) (aMo A) (mN M) (aQf A) t (aTk A t) htl (hC.te (by omega)) (by omega) (by omega) (hC.qf t (by omega))) (cwV 1 hts (gdV k_AL_get t_289 t_290 t_291 t_48) rfl rfl rfl (by decide +kernel) ⟨Nat.le_of_ble_eq_true rfl, Nat.le_of_ble_eq_true rfl⟩) ⟨roP_blind, fw_recv hK hP htl rfl, roP_pre hK hP⟩ rfl rfl hl.1 rfl (lv_room (Nat.le_of_ble_eq_true rfl)) d_Cs_timeOfOthers_5 ⟨by decide, by decide⟩) ?_
  obtain ⟨ktt, kslt, ks0t, kset, kqft, ksat, kjqt, krat⟩ := hC.tk t (by omega)
  obtain ⟨rpert, rcstt, rddlt, rprit, rnst, rSt, rnxt, rfrt, rndt, ruft, rrlt, rlrt, rgrt, rret, rlxt⟩ := itk t (by omega)
  refine fw_cast (T := fTa) (N := 8) hx hb hown (hts _ t_148) hK hP ktt rfl d_Cs_timeOfOthers_8 ?_
  refine fw_getN (ci := 3) (v := .int (iZ (sPri (mTs M t)))) (C := rTa) (T := fTa) (N := 8) (index := 71) (ref := "CeilingScheduler$Task") (host := "CeilingScheduler") hx hb hts iTa hown hK hP ktt rfl 3 (by decide) n_199 (fun _ h9 => h9) rfl d_Cs_timeOfOthers_11 ?_
  refine lv_istore_n (lv' := [(3, .int (iZ (sPri (mTs M t)))), (0, .ref a), (1, .int (iZ ((t : Int)))), (2, .int (iZ r))]) hx hb d_Cs_timeOfOthers_14 rfl hl (by decide) rfl (fun ls hl => ?_)
  refine lv_iconst (v := iZ 0) hx hb d_Cs_timeOfOthers_15 rfl ?_
  refine lv_istore (lv' := [(4, .int (iZ 0)), (3, .int (iZ (sPri (mTs M t)))), (0, .ref a), (1, .int (iZ ((t : Int)))), (2, .int (iZ r))]) hx hb d_Cs_timeOfOthers_16 hl (by decide) rfl (fun ls hl => ?_)
  refine lv_iconst (v := iZ 0) hx hb d_Cs_timeOfOthers_18 rfl ?_
  refine lv_istore (lv' := [(5, .int (iZ 0)), (4, .int (iZ 0)), (3, .int (iZ (sPri (mTs M t)))), (0, .ref a), (1, .int (iZ ((t : Int)))), (2, .int (iZ r))]) hx hb d_Cs_timeOfOthers_19 hl (by decide) rfl (fun ls hl => ?_)
  have lp : ∀ (f i : Nat) (k : Int), i + f = mN M → (toM M t r = toF M t r f i k) → (0 ≤ k ∧ k ≤ 3600 * (i : Int)) → ∀ ls : Array Slot, lv_has ls 7 [(5, .int (iZ ((i : Int)))), (4, .int (iZ k)), (3, .int (iZ (sPri (mTs M t)))), (0, .ref a), (1, .int (iZ ((t : Int)))), (2, .int (iZ r))] → W p l e ({ frames := 3, cells := 0, slots := 0, locals := 64 }) s m ([.ref a, .int (iZ ((t : Int))), .int (iZ r)] : List Value).toArray below meth c s.heap [] 0 0 (MQ below (k2_QcV (.int (iZ (toM M t r)))) ([.ref a, .int (iZ ((t : Int))), .int (iZ r)] : List Value).toArray s 0 0 (fun _ => False)) (F0 m 21 ls []) := by
    intro f
    induction f with
    | zero =>
      intro i k hif hv hk ls hl
      refine lv_iload hx hb d_Cs_timeOfOthers_21 (lv_at hl 0 rfl) ?_
      refine lv_aload_n hx hb d_Cs_timeOfOthers_23 rfl (lv_at hl 3 rfl) ?_
      refine fw_get (ci := 4) (v := .ref (aTl A)) (C := rCs) (T := fCs) (N := 4) hx hb hts iCs hown hK hP hc0 rfl 0 (by decide) (hts _ t_124) (fun _ h9 => h9) rfl d_Cs_timeOfOthers_24 ?_
      refine fw_ro (r := .int (iZ ((mN M : Int)))) (va_runV (As := []) (rest := [.int (iZ ((i : Int)))]) ⟨hx, hb, hml, hown, hts⟩ (c_AL_size l g w (aTl A) (aTe A) (aMo A) ((mN M : Int)) htl) (cwV 0 hts (gdV k_AL_size t_144 t_145 t_146 t_48) rfl rfl rfl (by decide +kernel) ⟨Nat.le_of_ble_eq_true rfl, Nat.le_of_ble_eq_true rfl⟩) ⟨roP_blind, fw_recv hK hP htl rfl, roP_pre hK hP⟩ rfl rfl hl.1 rfl (lv_room (Nat.le_of_ble_eq_true rfl)) d_Cs_timeOfOthers_27 ⟨by decide, by decide⟩) ?_
      refine zz_icmp_ge (tgt := 85) hx hb d_Cs_timeOfOthers_30 (by decide) ⟨by omega, by omega⟩ ⟨by omega, by omega⟩ (fun c30 => ?_) (fun c30 => ?_)
      · refine lv_iload hx hb d_Cs_timeOfOthers_85 (lv_at hl 1 rfl) ?_
        exact ro_iret hx hb hr hlocks d_Cs_timeOfOthers_87 (congrArg iZ (by rw [hv]; rfl))
      · exfalso; omega
    | succ f ih =>
      intro i k hif hv hk ls hl
      refine lv_iload hx hb d_Cs_timeOfOthers_21 (lv_at hl 0 rfl) ?_
      refine lv_aload_n hx hb d_Cs_timeOfOthers_23 rfl (lv_at hl 3 rfl) ?_
      refine fw_get (ci := 4) (v := .ref (aTl A)) (C := rCs) (T := fCs) (N := 4) hx hb hts iCs hown hK hP hc0 rfl 0 (by decide) (hts _ t_124) (fun _ h9 => h9) rfl d_Cs_timeOfOthers_24 ?_
      refine fw_ro (r := .int (iZ ((mN M : Int)))) (va_runV (As := []) (rest := [.int (iZ ((i : Int)))]) ⟨hx, hb, hml, hown, hts⟩ (c_AL_size l g w (aTl A) (aTe A) (aMo A) ((mN M : Int)) htl) (cwV 0 hts (gdV k_AL_size t_144 t_145 t_146 t_48) rfl rfl rfl (by decide +kernel) ⟨Nat.le_of_ble_eq_true rfl, Nat.le_of_ble_eq_true rfl⟩) ⟨roP_blind, fw_recv hK hP htl rfl, roP_pre hK hP⟩ rfl rfl hl.1 rfl (lv_room (Nat.le_of_ble_eq_true rfl)) d_Cs_timeOfOthers_27 ⟨by decide, by decide⟩) ?_
      refine zz_icmp_ge (tgt := 85) hx hb d_Cs_timeOfOthers_30 (by decide) ⟨by omega, by omega⟩ ⟨by omega, by omega⟩ (fun c30 => ?_) (fun c30 => ?_)
      · exfalso; omega
      · refine lv_aload_n hx hb d_Cs_timeOfOthers_33 rfl (lv_at hl 3 rfl) ?_
        refine fw_get (ci := 4) (v := .ref (aTl A)) (C := rCs) (T := fCs) (N := 4) hx hb hts iCs hown hK hP hc0 rfl 0 (by decide) (hts _ t_124) (fun _ h9 => h9) rfl d_Cs_timeOfOthers_34 ?_
        refine lv_iload hx hb d_Cs_timeOfOthers_37 (lv_at hl 0 rfl) ?_
        refine fw_ro (r := .ref (aTk A i)) (va_runV (As := [.int (iZ ((i : Int)))]) (rest := []) ⟨hx, hb, hml, hown, hts⟩ (c_AL_get l g w (aTl A) (aTe A) (aMo A) (mN M) (aQf A) i (aTk A i) htl (hC.te (by omega)) (by omega) (by omega) (hC.qf i (by omega))) (cwV 1 hts (gdV k_AL_get t_289 t_290 t_291 t_48) rfl rfl rfl (by decide +kernel) ⟨Nat.le_of_ble_eq_true rfl, Nat.le_of_ble_eq_true rfl⟩) ⟨roP_blind, fw_recv hK hP htl rfl, roP_pre hK hP⟩ rfl rfl hl.1 rfl (lv_room (Nat.le_of_ble_eq_true rfl)) d_Cs_timeOfOthers_39 ⟨by decide, by decide⟩) ?_
        obtain ⟨kti, ksli, ks0i, ksei, kqfi, ksai, kjqi, krai⟩ := hC.tk i (by omega)
        obtain ⟨rperi, rcsti, rddli, rprii, rnsi, rSi, rnxi, rfri, rndi, rufi, rrli, rlri, rgri, rrei, rlxi⟩ := itk i (by omega)
        refine fw_cast (T := fTa) (N := 8) hx hb hown (hts _ t_148) hK hP kti rfl d_Cs_timeOfOthers_42 ?_
        refine lv_astore (lv' := [(6, .ref (aTk A i)), (5, .int (iZ ((i : Int)))), (4, .int (iZ k)), (3, .int (iZ (sPri (mTs M t)))), (0, .ref a), (1, .int (iZ ((t : Int)))), (2, .int (iZ r))]) hx hb d_Cs_timeOfOthers_45 hl (by decide) rfl (fun ls hl => ?_)
        refine lv_iload hx hb d_Cs_timeOfOthers_47 (lv_at hl 1 rfl) ?_
        refine lv_iload_n hx hb d_Cs_timeOfOthers_49 rfl (lv_at hl 5 rfl) ?_
        refine zz_icmp_eq (tgt := 79) hx hb d_Cs_timeOfOthers_50 (by decide) ⟨by omega, by omega⟩ ⟨by omega, by omega⟩ (fun c50 => ?_) (fun c50 => ?_)
        · refine lv_iinc (v := iZ (((i : Int)) + 1)) (lv' := [(5, .int (iZ (((i : Int)) + 1))), (6, .ref (aTk A i)), (4, .int (iZ k)), (3, .int (iZ (sPri (mTs M t)))), (0, .ref a), (1, .int (iZ ((t : Int)))), (2, .int (iZ r))]) hx hb d_Cs_timeOfOthers_79 hl (k := 1) rfl (iZ_add _ _) (by decide) rfl (fun ls hl => ?_)
          refine lv_goto (tgt := 21) hx hb d_Cs_timeOfOthers_82 (by decide) ?_
          exact ih (i + 1) k (by omega) (by rw [hv, toF, if_neg (by omega)]) (by omega) ls (lv_sub hl [0, 2, 3, 4, 5, 6] rfl)
        · refine lv_aload hx hb d_Cs_timeOfOthers_53 (lv_at hl 0 rfl) ?_
          refine fw_getN (ci := 3) (v := .int (iZ (sPri (mTs M i)))) (C := rTa) (T := fTa) (N := 8) (index := 71) (ref := "CeilingScheduler$Task") (host := "CeilingScheduler") hx hb hts iTa hown hK hP kti rfl 3 (by decide) n_199 (fun _ h9 => h9) rfl d_Cs_timeOfOthers_55 ?_
          refine lv_iload_n hx hb d_Cs_timeOfOthers_58 rfl (lv_at hl 3 rfl) ?_
          refine zz_icmp_lt (tgt := 79) hx hb d_Cs_timeOfOthers_59 (by decide) ⟨by omega, by omega⟩ ⟨by omega, by omega⟩ (fun c59 => ?_) (fun c59 => ?_)
          · refine lv_iinc (v := iZ (((i : Int)) + 1)) (lv' := [(5, .int (iZ (((i : Int)) + 1))), (6, .ref (aTk A i)), (4, .int (iZ k)), (3, .int (iZ (sPri (mTs M t)))), (0, .ref a), (1, .int (iZ ((t : Int)))), (2, .int (iZ r))]) hx hb d_Cs_timeOfOthers_79 hl (k := 1) rfl (iZ_add _ _) (by decide) rfl (fun ls hl => ?_)
            refine lv_goto (tgt := 21) hx hb d_Cs_timeOfOthers_82 (by decide) ?_
            exact ih (i + 1) k (by omega) (by rw [hv, toF, if_neg (by omega)]) (by omega) ls (lv_sub hl [0, 2, 3, 4, 5, 6] rfl)
          · refine lv_iload hx hb d_Cs_timeOfOthers_62 (lv_at hl 2 rfl) ?_
            refine lv_aload hx hb d_Cs_timeOfOthers_64 (lv_at hl 0 rfl) ?_
            refine fw_getN (ci := 3) (v := .int (iZ (sCst (mTs M i)))) (C := rTa) (T := fTa) (N := 8) (index := 63) (ref := "CeilingScheduler$Task") (host := "CeilingScheduler") hx hb hts iTa hown hK hP kti rfl 1 (by decide) n_195 (fun _ h9 => h9) rfl d_Cs_timeOfOthers_66 ?_
            refine lv_aload hx hb d_Cs_timeOfOthers_69 (lv_at hl 0 rfl) ?_
            refine lv_iload_n hx hb d_Cs_timeOfOthers_71 rfl (lv_at hl 6 rfl) ?_
            refine fw_ro (r := .int (iZ ((r + sPer (mTs M i) - 1) / sPer (mTs M i)))) (va_runVN (As := [.int (iZ r)]) (rest := [.int (iZ (sCst (mTs M i))), .int (iZ k)]) ⟨hx, hb, hml, hown, hts⟩ (c_Ta_most l g w (aTk A i) (aSl A i) (aJq A i) (sPer (mTs M i)) (sCst (mTs M i)) (sDdl (mTs M i)) (sPri (mTs M i)) (dNxt (mTd M i)) (sSpo (mTs M i)) r kti ⟨by omega, by omega⟩ ⟨by omega, by omega⟩) ⟨va_cnB 1 hts (gdT k_Ta_mostReleasesIn) rfl rfl rfl (hK.2.1 _ n_490) (hts _ t_51) (by decide +kernel) ⟨Nat.le_of_ble_eq_true rfl, Nat.le_of_ble_eq_true rfl⟩, hts _ t_492, hts _ t_33⟩ ⟨roP_blind, fw_recv hK hP kti rfl, roP_pre hK hP⟩ rfl rfl hl.1 rfl (lv_room (Nat.le_of_ble_eq_true rfl)) d_Cs_timeOfOthers_72 ⟨by decide, by decide⟩) ?_
            have hmu := mul_rng (sCst (mTs M i)) (sPer (mTs M i)) r rcsti rperi hr1
            refine zz_imul hx hb d_Cs_timeOfOthers_75 ?_
            refine zz_iadd hx hb d_Cs_timeOfOthers_76 ?_
            refine lv_istore (lv' := [(4, .int (iZ (k + ((sCst (mTs M i)) * ((r + sPer (mTs M i) - 1) / sPer (mTs M i)))))), (6, .ref (aTk A i)), (5, .int (iZ ((i : Int)))), (3, .int (iZ (sPri (mTs M t)))), (0, .ref a), (1, .int (iZ ((t : Int)))), (2, .int (iZ r))]) hx hb d_Cs_timeOfOthers_77 hl (by decide) rfl (fun ls hl => ?_)
            refine lv_iinc (v := iZ (((i : Int)) + 1)) (lv' := [(5, .int (iZ (((i : Int)) + 1))), (4, .int (iZ (k + ((sCst (mTs M i)) * ((r + sPer (mTs M i) - 1) / sPer (mTs M i)))))), (6, .ref (aTk A i)), (3, .int (iZ (sPri (mTs M t)))), (0, .ref a), (1, .int (iZ ((t : Int)))), (2, .int (iZ r))]) hx hb d_Cs_timeOfOthers_79 hl (k := 2) rfl (iZ_add _ _) (by decide) rfl (fun ls hl => ?_)
            refine lv_goto (tgt := 21) hx hb d_Cs_timeOfOthers_82 (by decide) ?_
            exact ih (i + 1) (k + ((sCst (mTs M i)) * ((r + sPer (mTs M i) - 1) / sPer (mTs M i)))) (by omega) (by rw [hv, toF, if_pos (by omega)]) (by omega) ls (lv_sub hl [0, 1, 3, 4, 5, 6] rfl)
  exact lp (mN M) 0 0 (by omega) rfl (by omega) ls (lv_sub hl [0, 1, 2, 3, 4, 5] rfl)

set_option maxHeartbeats 4000000 in
set_option maxRecDepth 100000 in
theorem c_Cs_boundOf (l : Launch) (g : GG) (w : fw) (a : Nat) (A : ADT) (M : CsM) (tb : Int) (t : Nat) (hC : CsP g w a A M) (hI : CsI M tb) (ht : t < mN M) : RO l y_Cs_boundOf w_Cs_boundOf ({ frames := 5, cells := 0, slots := 0, locals := 113 }) g w [.ref a, .int (iZ ((t : Int)))] (.int (iZ (boM M t))) := by
  refine ro_go (by decide) rfl (Nat.le_of_ble_eq_true rfl) ?_
  intro p e s m below meth c hx hb hr hml hown hts hlocks hK hP ls hl
  have hown : s.vm.findClass rCs = some m.cls := hown
  have hl : lv_has ls 5 [(0, .ref a), (1, .int (iZ ((t : Int))))] := hl
  have hI0 := hI
  have hc0 := hC.c0
  have htl := hC.tl
  have hca := hC.ca
  have hhi := hC.hi
  have hha := hC.ha
  obtain ⟨itb, in6, iti, ilr, iln, ice, itk⟩ := hI
  refine lv_aload_n hx hb d_Cs_boundOf_0 rfl (lv_at hl 0 rfl) ?_
  refine fw_get (ci := 4) (v := .ref (aTl A)) (C := rCs) (T := fCs) (N := 4) hx hb hts iCs hown hK hP hc0 rfl 0 (by decide) (hts _ t_124) (fun _ h9 => h9) rfl d_Cs_boundOf_1 ?_
  refine lv_iload_n hx hb d_Cs_boundOf_4 rfl (lv_at hl 1 rfl) ?_
  refine fw_ro (r := .ref (aTk A t)) (va_runV (As := [.int (iZ ((t : Int)))]) (rest := []) ⟨hx, hb, hml, hown, hts⟩ (c_AL_get l g w (aTl A) (aTe A) (aMo A) (mN M) (aQf A) t (aTk A t) htl (hC.te (by omega)) (by omega) (by omega) (hC.qf t (by omega))) (cwV 1 hts (gdV k_AL_get t_289 t_290 t_291 t_48) rfl rfl rfl (by decide +kernel) ⟨Nat.le_of_ble_eq_true rfl, Nat.le_of_ble_eq_true rfl⟩) ⟨roP_blind, fw_recv hK hP htl rfl, roP_pre hK hP⟩ rfl rfl hl.1 rfl (lv_room (Nat.le_of_ble_eq_true rfl)) d_Cs_boundOf_5 ⟨by decide, by decide⟩) ?_
  obtain ⟨ktt, kslt, ks0t, kset, kqft, ksat, kjqt, krat⟩ := hC.tk t (by omega)
  obtain ⟨rpert, rcstt, rddlt, rprit, rnst, rSt, rnxt, rfrt, rndt, ruft, rrlt, rlrt, rgrt, rret, rlxt⟩ := itk t (by omega)
  refine fw_cast (T := fTa) (N := 8) hx hb hown (hts _ t_148) hK hP ktt rfl d_Cs_boundOf_8 ?_
  refine lv_astore_n (lv' := [(2, .ref (aTk A t)), (0, .ref a), (1, .int (iZ ((t : Int))))]) hx hb d_Cs_boundOf_11 rfl hl (by decide) rfl (fun ls hl => ?_)
  refine lv_aload_n hx hb d_Cs_boundOf_12 rfl (lv_at hl 0 rfl) ?_
  refine fw_getN (ci := 3) (v := .int (iZ (sCst (mTs M t)))) (C := rTa) (T := fTa) (N := 8) (index := 63) (ref := "CeilingScheduler$Task") (host := "CeilingScheduler") hx hb hts iTa hown hK hP ktt rfl 1 (by decide) n_195 (fun _ h9 => h9) rfl d_Cs_boundOf_13 ?_
  refine lv_aload_n hx hb d_Cs_boundOf_16 rfl (lv_at hl 1 rfl) ?_
  refine lv_aload_n hx hb d_Cs_boundOf_17 rfl (lv_at hl 0 rfl) ?_
  refine fw_ro (r := .int (iZ (bkM M t))) (va_runV (As := [.ref (aTk A t)]) (rest := [.int (iZ (sCst (mTs M t)))]) ⟨hx, hb, hml, hown, hts⟩ (c_Cs_blockOf l g w a A M tb t hC hI0 (by omega)) (cwV 1 hts (gdV k_Cs_blockingOf t_478 t_480 t_30 t_45) rfl rfl rfl (by decide +kernel) ⟨Nat.le_of_ble_eq_true rfl, Nat.le_of_ble_eq_true rfl⟩) ⟨roP_blind, fw_recv hK hP hc0 rfl, roP_pre hK hP⟩ rfl rfl hl.1 rfl (lv_room (Nat.le_of_ble_eq_true rfl)) d_Cs_boundOf_18 ⟨by decide, by decide⟩) ?_
  have hbk := bkM_rng M t (fun i hi => (itk i hi).2.2.2.2.2.1)
  refine zz_iadd hx hb d_Cs_boundOf_21 ?_
  refine lv_istore_n (lv' := [(3, .int (iZ ((sCst (mTs M t)) + (bkM M t)))), (2, .ref (aTk A t)), (0, .ref a), (1, .int (iZ ((t : Int))))]) hx hb d_Cs_boundOf_22 rfl hl (by decide) rfl (fun ls hl => ?_)
  refine lv_iconst (v := iZ 1) hx hb d_Cs_boundOf_23 rfl ?_
  refine lv_istore (lv' := [(4, .int (iZ 1)), (3, .int (iZ ((sCst (mTs M t)) + (bkM M t)))), (2, .ref (aTk A t)), (0, .ref a), (1, .int (iZ ((t : Int))))]) hx hb d_Cs_boundOf_24 hl (by decide) rfl (fun ls hl => ?_)
  have lp : ∀ (f i : Nat), i + f = (sPer (mTs M t)).toNat + 1 → (boM M t = boF M t f (i : Int)) → (1 ≤ i) → ∀ ls : Array Slot, lv_has ls 5 [(4, .int (iZ ((i : Int)))), (0, .ref a), (1, .int (iZ ((t : Int)))), (2, .ref (aTk A t)), (3, .int (iZ (sCst (mTs M t) + bkM M t)))] → W p l e ({ frames := 5, cells := 0, slots := 0, locals := 113 }) s m ([.ref a, .int (iZ ((t : Int)))] : List Value).toArray below meth c s.heap [] 0 0 (MQ below (k2_QcV (.int (iZ (boM M t)))) ([.ref a, .int (iZ ((t : Int)))] : List Value).toArray s 0 0 (fun _ => False)) (F0 m 26 ls []) := by
    intro f
    induction f with
    | zero =>
      intro i hif hv h1i ls hl
      refine lv_iload hx hb d_Cs_boundOf_26 (lv_at hl 0 rfl) ?_
      refine lv_aload_n hx hb d_Cs_boundOf_28 rfl (lv_at hl 3 rfl) ?_
      refine fw_getN (ci := 3) (v := .int (iZ (sPer (mTs M t)))) (C := rTa) (T := fTa) (N := 8) (index := 93) (ref := "CeilingScheduler$Task") (host := "CeilingScheduler") hx hb hts iTa hown hK hP ktt rfl 0 (by decide) n_193 (fun _ h9 => h9) rfl d_Cs_boundOf_29 ?_
      refine zz_icmp_gt (tgt := 58) hx hb d_Cs_boundOf_32 (by decide) ⟨by omega, by omega⟩ ⟨by omega, by omega⟩ (fun c32 => ?_) (fun c32 => ?_)
      · refine lv_bipush (v := iZ (-3)) hx hb d_Cs_boundOf_58 (by decide) ?_
        exact ro_iret hx hb hr hlocks d_Cs_boundOf_60 (congrArg iZ (by rw [hv]; rfl))
      · exfalso; omega
    | succ f ih =>
      intro i hif hv h1i ls hl
      refine lv_iload hx hb d_Cs_boundOf_26 (lv_at hl 0 rfl) ?_
      refine lv_aload_n hx hb d_Cs_boundOf_28 rfl (lv_at hl 3 rfl) ?_
      refine fw_getN (ci := 3) (v := .int (iZ (sPer (mTs M t)))) (C := rTa) (T := fTa) (N := 8) (index := 93) (ref := "CeilingScheduler$Task") (host := "CeilingScheduler") hx hb hts iTa hown hK hP ktt rfl 0 (by decide) n_193 (fun _ h9 => h9) rfl d_Cs_boundOf_29 ?_
      refine zz_icmp_gt (tgt := 58) hx hb d_Cs_boundOf_32 (by decide) ⟨by omega, by omega⟩ ⟨by omega, by omega⟩ (fun c32 => ?_) (fun c32 => ?_)
      · exfalso; omega
      · refine lv_iload hx hb d_Cs_boundOf_35 (lv_at hl 0 rfl) ?_
        refine lv_iload_n hx hb d_Cs_boundOf_37 rfl (lv_at hl 4 rfl) ?_
        refine lv_aload_n hx hb d_Cs_boundOf_38 rfl (lv_at hl 1 rfl) ?_
        refine lv_iload_n hx hb d_Cs_boundOf_39 rfl (lv_at hl 2 rfl) ?_
        refine lv_iload hx hb d_Cs_boundOf_40 (lv_at hl 0 rfl) ?_
        refine fw_ro (r := .int (iZ (toM M t ((i : Int))))) (va_runV (As := [.int (iZ ((t : Int))), .int (iZ ((i : Int)))]) (rest := [.int (iZ (sCst (mTs M t) + bkM M t)), .int (iZ ((i : Int)))]) ⟨hx, hb, hml, hown, hts⟩ (c_Cs_others l g w a A M tb t ((i : Int)) hC hI0 (by omega) ⟨by omega, by omega⟩) (cwV 2 hts (gdV k_Cs_timeOfOthers t_486 t_488 t_32 t_45) rfl rfl rfl (by decide +kernel) ⟨Nat.le_of_ble_eq_true rfl, Nat.le_of_ble_eq_true rfl⟩) ⟨roP_blind, fw_recv hK hP hc0 rfl, roP_pre hK hP⟩ rfl rfl hl.1 rfl (lv_room (Nat.le_of_ble_eq_true rfl)) d_Cs_boundOf_42 ⟨by decide, by decide⟩) ?_
        have hto := toM_rng M t (i : Int) (fun i hi => ⟨(itk i hi).1, (itk i hi).2.1⟩) in6 (by omega)
        refine zz_iadd hx hb d_Cs_boundOf_45 ?_
        refine zz_icmp_ne (tgt := 52) hx hb d_Cs_boundOf_46 (by decide) ⟨by omega, by omega⟩ ⟨by omega, by omega⟩ (fun c46 => ?_) (fun c46 => ?_)
        · refine lv_iinc (v := iZ (((i : Int)) + 1)) (lv' := [(4, .int (iZ (((i : Int)) + 1))), (0, .ref a), (1, .int (iZ ((t : Int)))), (2, .ref (aTk A t)), (3, .int (iZ (sCst (mTs M t) + bkM M t)))]) hx hb d_Cs_boundOf_52 hl (k := 0) rfl (iZ_add _ _) (by decide) rfl (fun ls hl => ?_)
          refine lv_goto (tgt := 26) hx hb d_Cs_boundOf_55 (by decide) ?_
          exact ih (i + 1) (by omega) (by rw [hv, boF, if_neg c46]; rfl) (by omega) ls (lv_sub hl [0, 1, 2, 3, 4] rfl)
        · refine lv_iload hx hb d_Cs_boundOf_49 (lv_at hl 0 rfl) ?_
          exact ro_iret hx hb hr hlocks d_Cs_boundOf_51 (congrArg iZ (by rw [hv, boF, if_pos c46]))
  exact lp _ 1 (by omega) rfl (by omega) ls (lv_sub hl [0, 3, 4, 2, 1] rfl)

set_option maxHeartbeats 4000000 in
set_option maxRecDepth 100000 in
theorem c_Cs_allB (l : Launch) (g : GG) (w : fw) (a : Nat) (A : ADT) (M : CsM) (tb : Int) (hC : CsP g w a A M) (hI : CsI M tb) : RO l y_Cs_allBoundsMeetDeadlines w_Cs_allBoundsMeetDeadlines ({ frames := 6, cells := 0, slots := 0, locals := 137 }) g w [.ref a] (.int (bZ (abM M))) := by
  refine ro_go (by decide) rfl (Nat.le_of_ble_eq_true rfl) ?_
  intro p e s m below meth c hx hb hr hml hown hts hlocks hK hP ls hl
  have hown : s.vm.findClass rCs = some m.cls := hown
  have hl : lv_has ls 3 [(0, .ref a)] := hl
  have hI0 := hI
  have hc0 := hC.c0
  have htl := hC.tl
  have hca := hC.ca
  have hhi := hC.hi
  have hha := hC.ha
  obtain ⟨itb, in6, iti, ilr, iln, ice, itk⟩ := hI
  refine lv_iconst (v := iZ 0) hx hb d_Cs_allBoundsMeetDeadlines_0 rfl ?_
  refine lv_istore_n (lv' := [(1, .int (iZ 0)), (0, .ref a)]) hx hb d_Cs_allBoundsMeetDeadlines_1 rfl hl (by decide) rfl (fun ls hl => ?_)
  have lp : ∀ (f i : Nat), i + f = mN M → (abM M = abF M f i) → ∀ ls : Array Slot, lv_has ls 3 [(1, .int (iZ ((i : Int)))), (0, .ref a)] → W p l e ({ frames := 6, cells := 0, slots := 0, locals := 137 }) s m ([.ref a] : List Value).toArray below meth c s.heap [] 0 0 (MQ below (k2_QcV (.int (bZ (abM M)))) ([.ref a] : List Value).toArray s 0 0 (fun _ => False)) (F0 m 2 ls []) := by
    intro f
    induction f with
    | zero =>
      intro i hif hv ls hl
      refine lv_iload_n hx hb d_Cs_allBoundsMeetDeadlines_2 rfl (lv_at hl 0 rfl) ?_
      refine lv_aload_n hx hb d_Cs_allBoundsMeetDeadlines_3 rfl (lv_at hl 1 rfl) ?_
      refine fw_get (ci := 4) (v := .ref (aTl A)) (C := rCs) (T := fCs) (N := 4) hx hb hts iCs hown hK hP hc0 rfl 0 (by decide) (hts _ t_124) (fun _ h9 => h9) rfl d_Cs_allBoundsMeetDeadlines_4 ?_
      refine fw_ro (r := .int (iZ ((mN M : Int)))) (va_runV (As := []) (rest := [.int (iZ ((i : Int)))]) ⟨hx, hb, hml, hown, hts⟩ (c_AL_size l g w (aTl A) (aTe A) (aMo A) ((mN M : Int)) htl) (cwV 0 hts (gdV k_AL_size t_144 t_145 t_146 t_48) rfl rfl rfl (by decide +kernel) ⟨Nat.le_of_ble_eq_true rfl, Nat.le_of_ble_eq_true rfl⟩) ⟨roP_blind, fw_recv hK hP htl rfl, roP_pre hK hP⟩ rfl rfl hl.1 rfl (lv_room (Nat.le_of_ble_eq_true rfl)) d_Cs_allBoundsMeetDeadlines_7 ⟨by decide, by decide⟩) ?_
      refine zz_icmp_ge (tgt := 51) hx hb d_Cs_allBoundsMeetDeadlines_10 (by decide) ⟨by omega, by omega⟩ ⟨by omega, by omega⟩ (fun c10 => ?_) (fun c10 => ?_)
      · refine lv_iconst (v := iZ 1) hx hb d_Cs_allBoundsMeetDeadlines_51 rfl ?_
        exact ro_zret hx hb hr hlocks d_Cs_allBoundsMeetDeadlines_52 (bz1 (by rw [hv]; rfl))
      · exfalso; omega
    | succ f ih =>
      intro i hif hv ls hl
      refine lv_iload_n hx hb d_Cs_allBoundsMeetDeadlines_2 rfl (lv_at hl 0 rfl) ?_
      refine lv_aload_n hx hb d_Cs_allBoundsMeetDeadlines_3 rfl (lv_at hl 1 rfl) ?_
      refine fw_get (ci := 4) (v := .ref (aTl A)) (C := rCs) (T := fCs) (N := 4) hx hb hts iCs hown hK hP hc0 rfl 0 (by decide) (hts _ t_124) (fun _ h9 => h9) rfl d_Cs_allBoundsMeetDeadlines_4 ?_
      refine fw_ro (r := .int (iZ ((mN M : Int)))) (va_runV (As := []) (rest := [.int (iZ ((i : Int)))]) ⟨hx, hb, hml, hown, hts⟩ (c_AL_size l g w (aTl A) (aTe A) (aMo A) ((mN M : Int)) htl) (cwV 0 hts (gdV k_AL_size t_144 t_145 t_146 t_48) rfl rfl rfl (by decide +kernel) ⟨Nat.le_of_ble_eq_true rfl, Nat.le_of_ble_eq_true rfl⟩) ⟨roP_blind, fw_recv hK hP htl rfl, roP_pre hK hP⟩ rfl rfl hl.1 rfl (lv_room (Nat.le_of_ble_eq_true rfl)) d_Cs_allBoundsMeetDeadlines_7 ⟨by decide, by decide⟩) ?_
      refine zz_icmp_ge (tgt := 51) hx hb d_Cs_allBoundsMeetDeadlines_10 (by decide) ⟨by omega, by omega⟩ ⟨by omega, by omega⟩ (fun c10 => ?_) (fun c10 => ?_)
      · exfalso; omega
      · refine lv_aload_n hx hb d_Cs_allBoundsMeetDeadlines_13 rfl (lv_at hl 1 rfl) ?_
        refine lv_iload_n hx hb d_Cs_allBoundsMeetDeadlines_14 rfl (lv_at hl 0 rfl) ?_
        refine fw_ro (r := .int (iZ (boM M i))) (va_runV (As := [.int (iZ ((i : Int)))]) (rest := []) ⟨hx, hb, hml, hown, hts⟩ (c_Cs_boundOf l g w a A M tb i hC hI0 (by omega)) (cwV 1 hts (gdV k_Cs_boundOf t_474 t_476 t_29 t_45) rfl rfl rfl (by decide +kernel) ⟨Nat.le_of_ble_eq_true rfl, Nat.le_of_ble_eq_true rfl⟩) ⟨roP_blind, fw_recv hK hP hc0 rfl, roP_pre hK hP⟩ rfl rfl hl.1 rfl (lv_room (Nat.le_of_ble_eq_true rfl)) d_Cs_allBoundsMeetDeadlines_15 ⟨by decide, by decide⟩) ?_
        have hbo := boM_rng M i (itk i (by omega)).1
        refine lv_istore_n (lv' := [(2, .int (iZ (boM M i))), (1, .int (iZ ((i : Int)))), (0, .ref a)]) hx hb d_Cs_allBoundsMeetDeadlines_18 rfl hl (by decide) rfl (fun ls hl => ?_)
        refine lv_iload_n hx hb d_Cs_allBoundsMeetDeadlines_19 rfl (lv_at hl 0 rfl) ?_
        refine lv_bipush (v := iZ (-3)) hx hb d_Cs_allBoundsMeetDeadlines_20 (by decide) ?_
        refine zz_icmp_eq (tgt := 43) hx hb d_Cs_allBoundsMeetDeadlines_22 (by decide) ⟨by omega, by omega⟩ ⟨by omega, by omega⟩ (fun c22 => ?_) (fun c22 => ?_)
        · refine lv_iconst (v := iZ 0) hx hb d_Cs_allBoundsMeetDeadlines_43 rfl ?_
          exact ro_zret hx hb hr hlocks d_Cs_allBoundsMeetDeadlines_44 (bz0 (by rw [hv, abF, if_pos (by omega)]))
        · refine lv_iload_n hx hb d_Cs_allBoundsMeetDeadlines_25 rfl (lv_at hl 0 rfl) ?_
          refine lv_aload_n hx hb d_Cs_allBoundsMeetDeadlines_26 rfl (lv_at hl 2 rfl) ?_
          refine fw_get (ci := 4) (v := .ref (aTl A)) (C := rCs) (T := fCs) (N := 4) hx hb hts iCs hown hK hP hc0 rfl 0 (by decide) (hts _ t_124) (fun _ h9 => h9) rfl d_Cs_allBoundsMeetDeadlines_27 ?_
          refine lv_iload_n hx hb d_Cs_allBoundsMeetDeadlines_30 rfl (lv_at hl 1 rfl) ?_
          refine fw_ro (r := .ref (aTk A i)) (va_runV (As := [.int (iZ ((i : Int)))]) (rest := [.int (iZ (boM M i))]) ⟨hx, hb, hml, hown, hts⟩ (c_AL_get l g w (aTl A) (aTe A) (aMo A) (mN M) (aQf A) i (aTk A i) htl (hC.te (by omega)) (by omega) (by omega) (hC.qf i (by omega))) (cwV 1 hts (gdV k_AL_get t_289 t_290 t_291 t_48) rfl rfl rfl (by decide +kernel) ⟨Nat.le_of_ble_eq_true rfl, Nat.le_of_ble_eq_true rfl⟩) ⟨roP_blind, fw_recv hK hP htl rfl, roP_pre hK hP⟩ rfl rfl hl.1 rfl (lv_room (Nat.le_of_ble_eq_true rfl)) d_Cs_allBoundsMeetDeadlines_31 ⟨by decide, by decide⟩) ?_
          obtain ⟨kti, ksli, ks0i, ksei, kqfi, ksai, kjqi, krai⟩ := hC.tk i (by omega)
          obtain ⟨rperi, rcsti, rddli, rprii, rnsi, rSi, rnxi, rfri, rndi, rufi, rrli, rlri, rgri, rrei, rlxi⟩ := itk i (by omega)
          refine fw_cast (T := fTa) (N := 8) hx hb hown (hts _ t_148) hK hP kti rfl d_Cs_allBoundsMeetDeadlines_34 ?_
          refine fw_getN (ci := 3) (v := .int (iZ (sDdl (mTs M i)))) (C := rTa) (T := fTa) (N := 8) (index := 126) (ref := "CeilingScheduler$Task") (host := "CeilingScheduler") hx hb hts iTa hown hK hP kti rfl 2 (by decide) n_197 (fun _ h9 => h9) rfl d_Cs_allBoundsMeetDeadlines_37 ?_
          refine zz_icmp_le (tgt := 45) hx hb d_Cs_allBoundsMeetDeadlines_40 (by decide) ⟨by omega, by omega⟩ ⟨by omega, by omega⟩ (fun c40 => ?_) (fun c40 => ?_)
          · refine lv_iinc (v := iZ (((i : Int)) + 1)) (lv' := [(1, .int (iZ (((i : Int)) + 1))), (2, .int (iZ (boM M i))), (0, .ref a)]) hx hb d_Cs_allBoundsMeetDeadlines_45 hl (k := 1) rfl (iZ_add _ _) (by decide) rfl (fun ls hl => ?_)
            refine lv_goto (tgt := 2) hx hb d_Cs_allBoundsMeetDeadlines_48 (by decide) ?_
            exact ih (i + 1) (by omega) (by rw [hv, abF, if_neg (by omega)]) ls (lv_sub hl [0, 2] rfl)
          · refine lv_iconst (v := iZ 0) hx hb d_Cs_allBoundsMeetDeadlines_43 rfl ?_
            exact ro_zret hx hb hr hlocks d_Cs_allBoundsMeetDeadlines_44 (bz0 (by rw [hv, abF, if_pos (by omega)]))
  exact lp (mN M) 0 (by omega) rfl ls (lv_sub hl [0, 1] rfl)

set_option maxHeartbeats 4000000 in
set_option maxRecDepth 100000 in
theorem c_Cs_stop (l : Launch) (g : GG) (w : fw) (a : Nat) (A : ADT) (M : CsM) (tb : Int) (hC : CsP g w a A M) (hI : CsI M tb) : RO l y_Cs_isStopped w_Cs_isStopped ({ frames := 3, cells := 0, slots := 0, locals := 64 }) g w [.ref a] (.int (bZ (stM M))) := by
  refine ro_go (by decide) rfl (Nat.le_of_ble_eq_true rfl) ?_
  intro p e s m below meth c hx hb hr hml hown hts hlocks hK hP ls hl
  have hown : s.vm.findClass rCs = some m.cls := hown
  have hl : lv_has ls 3 [(0, .ref a)] := hl
  have hI0 := hI
  have hc0 := hC.c0
  have htl := hC.tl
  have hca := hC.ca
  have hhi := hC.hi
  have hha := hC.ha
  obtain ⟨itb, in6, iti, ilr, iln, ice, itk⟩ := hI
  refine lv_iconst (v := iZ 0) hx hb d_Cs_isStopped_0 rfl ?_
  refine lv_istore_n (lv' := [(1, .int (iZ 0)), (0, .ref a)]) hx hb d_Cs_isStopped_1 rfl hl (by decide) rfl (fun ls hl => ?_)
  have lp : ∀ (f i : Nat), i + f = mN M → (stM M = stF M f i) → ∀ ls : Array Slot, lv_has ls 3 [(1, .int (iZ ((i : Int)))), (0, .ref a)] → W p l e ({ frames := 3, cells := 0, slots := 0, locals := 64 }) s m ([.ref a] : List Value).toArray below meth c s.heap [] 0 0 (MQ below (k2_QcV (.int (bZ (stM M)))) ([.ref a] : List Value).toArray s 0 0 (fun _ => False)) (F0 m 2 ls []) := by
    intro f
    induction f with
    | zero =>
      intro i hif hv ls hl
      refine lv_iload_n hx hb d_Cs_isStopped_2 rfl (lv_at hl 0 rfl) ?_
      refine lv_aload_n hx hb d_Cs_isStopped_3 rfl (lv_at hl 1 rfl) ?_
      refine fw_get (ci := 4) (v := .ref (aTl A)) (C := rCs) (T := fCs) (N := 4) hx hb hts iCs hown hK hP hc0 rfl 0 (by decide) (hts _ t_124) (fun _ h9 => h9) rfl d_Cs_isStopped_4 ?_
      refine fw_ro (r := .int (iZ ((mN M : Int)))) (va_runV (As := []) (rest := [.int (iZ ((i : Int)))]) ⟨hx, hb, hml, hown, hts⟩ (c_AL_size l g w (aTl A) (aTe A) (aMo A) ((mN M : Int)) htl) (cwV 0 hts (gdV k_AL_size t_144 t_145 t_146 t_48) rfl rfl rfl (by decide +kernel) ⟨Nat.le_of_ble_eq_true rfl, Nat.le_of_ble_eq_true rfl⟩) ⟨roP_blind, fw_recv hK hP htl rfl, roP_pre hK hP⟩ rfl rfl hl.1 rfl (lv_room (Nat.le_of_ble_eq_true rfl)) d_Cs_isStopped_7 ⟨by decide, by decide⟩) ?_
      refine zz_icmp_ge (tgt := 57) hx hb d_Cs_isStopped_10 (by decide) ⟨by omega, by omega⟩ ⟨by omega, by omega⟩ (fun c10 => ?_) (fun c10 => ?_)
      · refine lv_iconst (v := iZ 0) hx hb d_Cs_isStopped_57 rfl ?_
        exact ro_zret hx hb hr hlocks d_Cs_isStopped_58 (bz0 (by rw [hv]; rfl))
      · exfalso; omega
    | succ f ih =>
      intro i hif hv ls hl
      refine lv_iload_n hx hb d_Cs_isStopped_2 rfl (lv_at hl 0 rfl) ?_
      refine lv_aload_n hx hb d_Cs_isStopped_3 rfl (lv_at hl 1 rfl) ?_
      refine fw_get (ci := 4) (v := .ref (aTl A)) (C := rCs) (T := fCs) (N := 4) hx hb hts iCs hown hK hP hc0 rfl 0 (by decide) (hts _ t_124) (fun _ h9 => h9) rfl d_Cs_isStopped_4 ?_
      refine fw_ro (r := .int (iZ ((mN M : Int)))) (va_runV (As := []) (rest := [.int (iZ ((i : Int)))]) ⟨hx, hb, hml, hown, hts⟩ (c_AL_size l g w (aTl A) (aTe A) (aMo A) ((mN M : Int)) htl) (cwV 0 hts (gdV k_AL_size t_144 t_145 t_146 t_48) rfl rfl rfl (by decide +kernel) ⟨Nat.le_of_ble_eq_true rfl, Nat.le_of_ble_eq_true rfl⟩) ⟨roP_blind, fw_recv hK hP htl rfl, roP_pre hK hP⟩ rfl rfl hl.1 rfl (lv_room (Nat.le_of_ble_eq_true rfl)) d_Cs_isStopped_7 ⟨by decide, by decide⟩) ?_
      refine zz_icmp_ge (tgt := 57) hx hb d_Cs_isStopped_10 (by decide) ⟨by omega, by omega⟩ ⟨by omega, by omega⟩ (fun c10 => ?_) (fun c10 => ?_)
      · exfalso; omega
      · refine lv_aload_n hx hb d_Cs_isStopped_13 rfl (lv_at hl 1 rfl) ?_
        refine fw_get (ci := 4) (v := .ref (aTl A)) (C := rCs) (T := fCs) (N := 4) hx hb hts iCs hown hK hP hc0 rfl 0 (by decide) (hts _ t_124) (fun _ h9 => h9) rfl d_Cs_isStopped_14 ?_
        refine lv_iload_n hx hb d_Cs_isStopped_17 rfl (lv_at hl 0 rfl) ?_
        refine fw_ro (r := .ref (aTk A i)) (va_runV (As := [.int (iZ ((i : Int)))]) (rest := []) ⟨hx, hb, hml, hown, hts⟩ (c_AL_get l g w (aTl A) (aTe A) (aMo A) (mN M) (aQf A) i (aTk A i) htl (hC.te (by omega)) (by omega) (by omega) (hC.qf i (by omega))) (cwV 1 hts (gdV k_AL_get t_289 t_290 t_291 t_48) rfl rfl rfl (by decide +kernel) ⟨Nat.le_of_ble_eq_true rfl, Nat.le_of_ble_eq_true rfl⟩) ⟨roP_blind, fw_recv hK hP htl rfl, roP_pre hK hP⟩ rfl rfl hl.1 rfl (lv_room (Nat.le_of_ble_eq_true rfl)) d_Cs_isStopped_18 ⟨by decide, by decide⟩) ?_
        obtain ⟨kti, ksli, ks0i, ksei, kqfi, ksai, kjqi, krai⟩ := hC.tk i (by omega)
        obtain ⟨rperi, rcsti, rddli, rprii, rnsi, rSi, rnxi, rfri, rndi, rufi, rrli, rlri, rgri, rrei, rlxi⟩ := itk i (by omega)
        refine fw_cast (T := fTa) (N := 8) hx hb hown (hts _ t_148) hK hP kti rfl d_Cs_isStopped_21 ?_
        refine lv_astore_n (lv' := [(2, .ref (aTk A i)), (1, .int (iZ ((i : Int)))), (0, .ref a)]) hx hb d_Cs_isStopped_24 rfl hl (by decide) rfl (fun ls hl => ?_)
        refine lv_aload_n hx hb d_Cs_isStopped_25 rfl (lv_at hl 0 rfl) ?_
        refine lv_aload_n hx hb d_Cs_isStopped_26 rfl (lv_at hl 2 rfl) ?_
        refine fw_get (ci := 4) (v := .ref (aHi A)) (C := rCs) (T := fCs) (N := 4) hx hb hts iCs hown hK hP hc0 rfl 2 (by decide) (hts _ t_126) (fun _ h9 => h9) rfl d_Cs_isStopped_27 ?_
        refine fw_getN (ci := 0) (v := .int (iZ (hTi (mHi M)))) (C := rHi) (T := fHi) (N := 6) (index := 96) (ref := "CeilingScheduler$History") (host := "CeilingScheduler") hx hb hts iHi hown hK hP hhi rfl 1 (by decide) n_102 (fun _ h9 => h9) rfl d_Cs_isStopped_30 ?_
        refine fw_ro (r := .int (bZ (decide (sSpo (mTs M i) = false ∧ dNxt (mTd M i) = hTi (mHi M))))) (va_runVN (As := [.int (iZ (hTi (mHi M)))]) (rest := []) ⟨hx, hb, hml, hown, hts⟩ (c_Ta_due l g w (aTk A i) (aSl A i) (aJq A i) (sPer (mTs M i)) (sCst (mTs M i)) (sDdl (mTs M i)) (sPri (mTs M i)) (dNxt (mTd M i)) (sSpo (mTs M i)) (hTi (mHi M)) kti ⟨by omega, by omega⟩ ⟨by omega, by omega⟩) ⟨va_cnB 1 hts (gdT k_Ta_isDueAt) rfl rfl rfl (hK.2.1 _ n_376) (hts _ t_51) (by decide +kernel) ⟨Nat.le_of_ble_eq_true rfl, Nat.le_of_ble_eq_true rfl⟩, hts _ t_378, hts _ t_11⟩ ⟨roP_blind, fw_recv hK hP kti rfl, roP_pre hK hP⟩ rfl rfl hl.1 rfl (lv_room (Nat.le_of_ble_eq_true rfl)) d_Cs_isStopped_33 ⟨by decide, by decide⟩) ?_
        refine zb_if_eq (tgt := 51) hx hb d_Cs_isStopped_36 (by decide) (fun c36 => ?_) (fun c36 => ?_)
        · refine lv_iinc (v := iZ (((i : Int)) + 1)) (lv' := [(1, .int (iZ (((i : Int)) + 1))), (2, .ref (aTk A i)), (0, .ref a)]) hx hb d_Cs_isStopped_51 hl (k := 1) rfl (iZ_add _ _) (by decide) rfl (fun ls hl => ?_)
          refine lv_goto (tgt := 2) hx hb d_Cs_isStopped_54 (by decide) ?_
          exact ih (i + 1) (by omega) (by rw [hv, stF, if_neg (fun q => of_decide_eq_false c36 q.1)]) ls (lv_sub hl [0, 2] rfl)
        · refine lv_aload_n hx hb d_Cs_isStopped_39 rfl (lv_at hl 0 rfl) ?_
          refine fw_getN (ci := 3) (v := .ref (aJq A i)) (C := rTa) (T := fTa) (N := 8) (index := 89) (ref := "CeilingScheduler$Task") (host := "CeilingScheduler") hx hb hts iTa hown hK hP kti rfl 6 (by decide) n_205 (fun _ h9 => h9) rfl d_Cs_isStopped_40 ?_
          refine fw_ro (r := .int (bZ (decide (8 ≤ dNd (mTd M i))))) (va_runVN (As := []) (rest := []) ⟨hx, hb, hml, hown, hts⟩ (c_Jq_isFull l g w (aJq A i) (aRa A i) (dFr (mTd M i)) (dNd (mTd M i)) (dUf (mTd M i)) (dRl (mTd M i)) (dLr (mTd M i)) (dDl (mTd M i)) (dGr (mTd M i)) kjqi ⟨by omega, by omega⟩) ⟨va_cnB 0 hts (gdT k_Jq_isFull) rfl rfl rfl (hK.2.1 _ n_360) (hts _ t_52) (by decide +kernel) ⟨Nat.le_of_ble_eq_true rfl, Nat.le_of_ble_eq_true rfl⟩, hts _ t_362, hts _ t_8⟩ ⟨roP_blind, fw_recv hK hP kjqi rfl, roP_pre hK hP⟩ rfl rfl hl.1 rfl (lv_room (Nat.le_of_ble_eq_true rfl)) d_Cs_isStopped_43 ⟨by decide, by decide⟩) ?_
          refine zb_if_eq (tgt := 51) hx hb d_Cs_isStopped_46 (by decide) (fun c46 => ?_) (fun c46 => ?_)
          · refine lv_iinc (v := iZ (((i : Int)) + 1)) (lv' := [(1, .int (iZ (((i : Int)) + 1))), (2, .ref (aTk A i)), (0, .ref a)]) hx hb d_Cs_isStopped_51 hl (k := 1) rfl (iZ_add _ _) (by decide) rfl (fun ls hl => ?_)
            refine lv_goto (tgt := 2) hx hb d_Cs_isStopped_54 (by decide) ?_
            exact ih (i + 1) (by omega) (by rw [hv, stF, if_neg (fun q => of_decide_eq_false c46 q.2)]) ls (lv_sub hl [0, 2] rfl)
          · refine lv_iconst (v := iZ 1) hx hb d_Cs_isStopped_49 rfl ?_
            exact ro_zret hx hb hr hlocks d_Cs_isStopped_50 (bz1 (by rw [hv, stF, if_pos ⟨of_decide_eq_true c36, of_decide_eq_true c46⟩]))
  exact lp (mN M) 0 (by omega) rfl ls (lv_sub hl [0, 1] rfl)

set_option maxHeartbeats 4000000 in
set_option maxRecDepth 100000 in
theorem c_Cs_great (l : Launch) (g : GG) (w : fw) (a : Nat) (A : ADT) (M : CsM) (tb : Int) (ob : Int) (hC : CsP g w a A M) (hI : CsI M tb) (hr_0 : ir ob) : RO l y_Cs_greatestPriorityOn w_Cs_greatestPriorityOn ({ frames := 4, cells := 0, slots := 0, locals := 86 }) g w [.ref a, .int (iZ ob)] (.int (iZ (gpM M ob))) := by
  refine ro_go (by decide) rfl (Nat.le_of_ble_eq_true rfl) ?_
  intro p e s m below meth c hx hb hr hml hown hts hlocks hK hP ls hl
  have hown : s.vm.findClass rCs = some m.cls := hown
  have hl : lv_has ls 5 [(0, .ref a), (1, .int (iZ ob))] := hl
  have hI0 := hI
  have hc0 := hC.c0
  have htl := hC.tl
  have hca := hC.ca
  have hhi := hC.hi
  have hha := hC.ha
  obtain ⟨itb, in6, iti, ilr, iln, ice, itk⟩ := hI
  obtain ⟨hr_0a, hr_0b⟩ := hr_0
  refine lv_iconst (v := iZ 0) hx hb d_Cs_greatestPriorityOn_0 rfl ?_
  refine lv_istore_n (lv' := [(2, .int (iZ 0)), (0, .ref a), (1, .int (iZ ob))]) hx hb d_Cs_greatestPriorityOn_1 rfl hl (by decide) rfl (fun ls hl => ?_)
  refine lv_iconst (v := iZ 0) hx hb d_Cs_greatestPriorityOn_2 rfl ?_
  refine lv_istore_n (lv' := [(3, .int (iZ 0)), (2, .int (iZ 0)), (0, .ref a), (1, .int (iZ ob))]) hx hb d_Cs_greatestPriorityOn_3 rfl hl (by decide) rfl (fun ls hl => ?_)
  have lp : ∀ (f i : Nat) (k : Int), i + f = mN M → (gpM M ob = gpF M ob f i k) → (0 ≤ k ∧ k ≤ 10) → ∀ ls : Array Slot, lv_has ls 5 [(3, .int (iZ ((i : Int)))), (2, .int (iZ k)), (0, .ref a), (1, .int (iZ ob))] → W p l e ({ frames := 4, cells := 0, slots := 0, locals := 86 }) s m ([.ref a, .int (iZ ob)] : List Value).toArray below meth c s.heap [] 0 0 (MQ below (k2_QcV (.int (iZ (gpM M ob)))) ([.ref a, .int (iZ ob)] : List Value).toArray s 0 0 (fun _ => False)) (F0 m 4 ls []) := by
    intro f
    induction f with
    | zero =>
      intro i k hif hv hk ls hl
      refine lv_iload_n hx hb d_Cs_greatestPriorityOn_4 rfl (lv_at hl 0 rfl) ?_
      refine lv_aload_n hx hb d_Cs_greatestPriorityOn_5 rfl (lv_at hl 2 rfl) ?_
      refine fw_get (ci := 4) (v := .ref (aTl A)) (C := rCs) (T := fCs) (N := 4) hx hb hts iCs hown hK hP hc0 rfl 0 (by decide) (hts _ t_124) (fun _ h9 => h9) rfl d_Cs_greatestPriorityOn_6 ?_
      refine fw_ro (r := .int (iZ ((mN M : Int)))) (va_runV (As := []) (rest := [.int (iZ ((i : Int)))]) ⟨hx, hb, hml, hown, hts⟩ (c_AL_size l g w (aTl A) (aTe A) (aMo A) ((mN M : Int)) htl) (cwV 0 hts (gdV k_AL_size t_144 t_145 t_146 t_48) rfl rfl rfl (by decide +kernel) ⟨Nat.le_of_ble_eq_true rfl, Nat.le_of_ble_eq_true rfl⟩) ⟨roP_blind, fw_recv hK hP htl rfl, roP_pre hK hP⟩ rfl rfl hl.1 rfl (lv_room (Nat.le_of_ble_eq_true rfl)) d_Cs_greatestPriorityOn_9 ⟨by decide, by decide⟩) ?_
      refine zz_icmp_ge (tgt := 53) hx hb d_Cs_greatestPriorityOn_12 (by decide) ⟨by omega, by omega⟩ ⟨by omega, by omega⟩ (fun c12 => ?_) (fun c12 => ?_)
      · refine lv_iload_n hx hb d_Cs_greatestPriorityOn_53 rfl (lv_at hl 1 rfl) ?_
        exact ro_iret hx hb hr hlocks d_Cs_greatestPriorityOn_54 (congrArg iZ (by rw [hv]; rfl))
      · exfalso; omega
    | succ f ih =>
      intro i k hif hv hk ls hl
      refine lv_iload_n hx hb d_Cs_greatestPriorityOn_4 rfl (lv_at hl 0 rfl) ?_
      refine lv_aload_n hx hb d_Cs_greatestPriorityOn_5 rfl (lv_at hl 2 rfl) ?_
      refine fw_get (ci := 4) (v := .ref (aTl A)) (C := rCs) (T := fCs) (N := 4) hx hb hts iCs hown hK hP hc0 rfl 0 (by decide) (hts _ t_124) (fun _ h9 => h9) rfl d_Cs_greatestPriorityOn_6 ?_
      refine fw_ro (r := .int (iZ ((mN M : Int)))) (va_runV (As := []) (rest := [.int (iZ ((i : Int)))]) ⟨hx, hb, hml, hown, hts⟩ (c_AL_size l g w (aTl A) (aTe A) (aMo A) ((mN M : Int)) htl) (cwV 0 hts (gdV k_AL_size t_144 t_145 t_146 t_48) rfl rfl rfl (by decide +kernel) ⟨Nat.le_of_ble_eq_true rfl, Nat.le_of_ble_eq_true rfl⟩) ⟨roP_blind, fw_recv hK hP htl rfl, roP_pre hK hP⟩ rfl rfl hl.1 rfl (lv_room (Nat.le_of_ble_eq_true rfl)) d_Cs_greatestPriorityOn_9 ⟨by decide, by decide⟩) ?_
      refine zz_icmp_ge (tgt := 53) hx hb d_Cs_greatestPriorityOn_12 (by decide) ⟨by omega, by omega⟩ ⟨by omega, by omega⟩ (fun c12 => ?_) (fun c12 => ?_)
      · exfalso; omega
      · refine lv_aload_n hx hb d_Cs_greatestPriorityOn_15 rfl (lv_at hl 2 rfl) ?_
        refine fw_get (ci := 4) (v := .ref (aTl A)) (C := rCs) (T := fCs) (N := 4) hx hb hts iCs hown hK hP hc0 rfl 0 (by decide) (hts _ t_124) (fun _ h9 => h9) rfl d_Cs_greatestPriorityOn_16 ?_
        refine lv_iload_n hx hb d_Cs_greatestPriorityOn_19 rfl (lv_at hl 0 rfl) ?_
        refine fw_ro (r := .ref (aTk A i)) (va_runV (As := [.int (iZ ((i : Int)))]) (rest := []) ⟨hx, hb, hml, hown, hts⟩ (c_AL_get l g w (aTl A) (aTe A) (aMo A) (mN M) (aQf A) i (aTk A i) htl (hC.te (by omega)) (by omega) (by omega) (hC.qf i (by omega))) (cwV 1 hts (gdV k_AL_get t_289 t_290 t_291 t_48) rfl rfl rfl (by decide +kernel) ⟨Nat.le_of_ble_eq_true rfl, Nat.le_of_ble_eq_true rfl⟩) ⟨roP_blind, fw_recv hK hP htl rfl, roP_pre hK hP⟩ rfl rfl hl.1 rfl (lv_room (Nat.le_of_ble_eq_true rfl)) d_Cs_greatestPriorityOn_20 ⟨by decide, by decide⟩) ?_
        obtain ⟨kti, ksli, ks0i, ksei, kqfi, ksai, kjqi, krai⟩ := hC.tk i (by omega)
        obtain ⟨rperi, rcsti, rddli, rprii, rnsi, rSi, rnxi, rfri, rndi, rufi, rrli, rlri, rgri, rrei, rlxi⟩ := itk i (by omega)
        refine fw_cast (T := fTa) (N := 8) hx hb hown (hts _ t_148) hK hP kti rfl d_Cs_greatestPriorityOn_23 ?_
        refine lv_astore (lv' := [(4, .ref (aTk A i)), (3, .int (iZ ((i : Int)))), (2, .int (iZ k)), (0, .ref a), (1, .int (iZ ob))]) hx hb d_Cs_greatestPriorityOn_26 hl (by decide) rfl (fun ls hl => ?_)
        refine lv_aload hx hb d_Cs_greatestPriorityOn_28 (lv_at hl 0 rfl) ?_
        refine lv_iload_n hx hb d_Cs_greatestPriorityOn_30 rfl (lv_at hl 4 rfl) ?_
        refine fw_ro (r := .int (bZ (hsO (mSc M i) ob (mNs M i) 0))) (va_runVN (As := [.int (iZ ob)]) (rest := []) ⟨hx, hb, hml, hown, hts⟩ (c_Ta_secOn l g w (aTk A i) (aSl A i) (aSe A i) (aJq A i) (aRa A i) (aSa A i) (sPer (mTs M i)) (sCst (mTs M i)) (sDdl (mTs M i)) (sPri (mTs M i)) (dNxt (mTd M i)) (sSpo (mTs M i)) (mNs M i) (mSc M i) (aMs A i) (aQs A i) (dFr (mTd M i)) (dNd (mTd M i)) (dUf (mTd M i)) (dRl (mTd M i)) (dLr (mTd M i)) (dDl (mTd M i)) (dGr (mTd M i)) ob kti ksli (by omega) ksei kqfi ksai rSi ⟨by omega, by omega⟩) ⟨va_cnB 1 hts (gdT k_Ta_hasSectionOn) rfl rfl rfl (hK.2.1 _ n_303) (hts _ t_51) (by decide +kernel) ⟨Nat.le_of_ble_eq_true rfl, Nat.le_of_ble_eq_true rfl⟩, hts _ t_305, hts _ t_4⟩ ⟨roP_blind, fw_recv hK hP kti rfl, roP_pre hK hP⟩ rfl rfl hl.1 rfl (lv_room (Nat.le_of_ble_eq_true rfl)) d_Cs_greatestPriorityOn_31 ⟨by decide, by decide⟩) ?_
        refine zb_if_eq (tgt := 47) hx hb d_Cs_greatestPriorityOn_34 (by decide) (fun c34 => ?_) (fun c34 => ?_)
        · refine lv_iinc (v := iZ (((i : Int)) + 1)) (lv' := [(3, .int (iZ (((i : Int)) + 1))), (4, .ref (aTk A i)), (2, .int (iZ k)), (0, .ref a), (1, .int (iZ ob))]) hx hb d_Cs_greatestPriorityOn_47 hl (k := 1) rfl (iZ_add _ _) (by decide) rfl (fun ls hl => ?_)
          refine lv_goto (tgt := 4) hx hb d_Cs_greatestPriorityOn_50 (by decide) ?_
          exact ih (i + 1) k (by omega) (by rw [hv, gpF, c34]; rfl) (by omega) ls (lv_sub hl [0, 2, 3, 4] rfl)
        · refine lv_iload_n hx hb d_Cs_greatestPriorityOn_37 rfl (lv_at hl 2 rfl) ?_
          refine lv_aload hx hb d_Cs_greatestPriorityOn_38 (lv_at hl 0 rfl) ?_
          refine fw_getN (ci := 3) (v := .int (iZ (sPri (mTs M i)))) (C := rTa) (T := fTa) (N := 8) (index := 71) (ref := "CeilingScheduler$Task") (host := "CeilingScheduler") hx hb hts iTa hown hK hP kti rfl 3 (by decide) n_199 (fun _ h9 => h9) rfl d_Cs_greatestPriorityOn_40 ?_
          refine va_mmax hx hb (by rw [hml]; exact hl.1.symm) hown (hts _ t_310) (hts _ t_244) (hts _ t_54) (hts _ k_Ma_max) (Nat.le_of_ble_eq_true rfl) (Nat.le_of_ble_eq_true rfl) (Nat.le_of_ble_eq_true rfl) (Nat.le_of_ble_eq_true rfl) d_Cs_greatestPriorityOn_43 ?_
          rw [iZ_max ⟨by omega, by omega⟩ ⟨by omega, by omega⟩]
          refine lv_istore_n (lv' := [(2, .int (iZ (max k (sPri (mTs M i))))), (4, .ref (aTk A i)), (3, .int (iZ ((i : Int)))), (0, .ref a), (1, .int (iZ ob))]) hx hb d_Cs_greatestPriorityOn_46 rfl hl (by decide) rfl (fun ls hl => ?_)
          refine lv_iinc (v := iZ (((i : Int)) + 1)) (lv' := [(3, .int (iZ (((i : Int)) + 1))), (2, .int (iZ (max k (sPri (mTs M i))))), (4, .ref (aTk A i)), (0, .ref a), (1, .int (iZ ob))]) hx hb d_Cs_greatestPriorityOn_47 hl (k := 2) rfl (iZ_add _ _) (by decide) rfl (fun ls hl => ?_)
          refine lv_goto (tgt := 4) hx hb d_Cs_greatestPriorityOn_50 (by decide) ?_
          exact ih (i + 1) (max k (sPri (mTs M i))) (by omega) (by rw [hv, gpF, c34]; rfl) (by omega) ls (lv_sub hl [0, 1, 3, 4] rfl)
  exact lp (mN M) 0 0 (by omega) rfl (by omega) ls (lv_sub hl [0, 1, 2, 3] rfl)

set_option maxHeartbeats 4000000 in
set_option maxRecDepth 100000 in
theorem c_Cs_notDone (l : Launch) (g : GG) (w : fw) (a : Nat) (A : ADT) (M : CsM) (tb : Int) (hC : CsP g w a A M) (hI : CsI M tb) : RO l y_Cs_jobsNotDone w_Cs_jobsNotDone ({ frames := 3, cells := 0, slots := 0, locals := 64 }) g w [.ref a] (.int (iZ (jnM M))) := by
  refine ro_go (by decide) rfl (Nat.le_of_ble_eq_true rfl) ?_
  intro p e s m below meth c hx hb hr hml hown hts hlocks hK hP ls hl
  have hown : s.vm.findClass rCs = some m.cls := hown
  have hl : lv_has ls 3 [(0, .ref a)] := hl
  have hI0 := hI
  have hc0 := hC.c0
  have htl := hC.tl
  have hca := hC.ca
  have hhi := hC.hi
  have hha := hC.ha
  obtain ⟨itb, in6, iti, ilr, iln, ice, itk⟩ := hI
  refine lv_iconst (v := iZ 0) hx hb d_Cs_jobsNotDone_0 rfl ?_
  refine lv_istore_n (lv' := [(1, .int (iZ 0)), (0, .ref a)]) hx hb d_Cs_jobsNotDone_1 rfl hl (by decide) rfl (fun ls hl => ?_)
  refine lv_iconst (v := iZ 0) hx hb d_Cs_jobsNotDone_2 rfl ?_
  refine lv_istore_n (lv' := [(2, .int (iZ 0)), (1, .int (iZ 0)), (0, .ref a)]) hx hb d_Cs_jobsNotDone_3 rfl hl (by decide) rfl (fun ls hl => ?_)
  have lp : ∀ (f i : Nat) (k : Int), i + f = mN M → (jnM M = jnF M f i k) → ∀ ls : Array Slot, lv_has ls 3 [(2, .int (iZ ((i : Int)))), (1, .int (iZ k)), (0, .ref a)] → W p l e ({ frames := 3, cells := 0, slots := 0, locals := 64 }) s m ([.ref a] : List Value).toArray below meth c s.heap [] 0 0 (MQ below (k2_QcV (.int (iZ (jnM M)))) ([.ref a] : List Value).toArray s 0 0 (fun _ => False)) (F0 m 4 ls []) := by
    intro f
    induction f with
    | zero =>
      intro i k hif hv ls hl
      refine lv_iload_n hx hb d_Cs_jobsNotDone_4 rfl (lv_at hl 0 rfl) ?_
      refine lv_aload_n hx hb d_Cs_jobsNotDone_5 rfl (lv_at hl 2 rfl) ?_
      refine fw_get (ci := 4) (v := .ref (aTl A)) (C := rCs) (T := fCs) (N := 4) hx hb hts iCs hown hK hP hc0 rfl 0 (by decide) (hts _ t_124) (fun _ h9 => h9) rfl d_Cs_jobsNotDone_6 ?_
      refine fw_ro (r := .int (iZ ((mN M : Int)))) (va_runV (As := []) (rest := [.int (iZ ((i : Int)))]) ⟨hx, hb, hml, hown, hts⟩ (c_AL_size l g w (aTl A) (aTe A) (aMo A) ((mN M : Int)) htl) (cwV 0 hts (gdV k_AL_size t_144 t_145 t_146 t_48) rfl rfl rfl (by decide +kernel) ⟨Nat.le_of_ble_eq_true rfl, Nat.le_of_ble_eq_true rfl⟩) ⟨roP_blind, fw_recv hK hP htl rfl, roP_pre hK hP⟩ rfl rfl hl.1 rfl (lv_room (Nat.le_of_ble_eq_true rfl)) d_Cs_jobsNotDone_9 ⟨by decide, by decide⟩) ?_
      refine zz_icmp_ge (tgt := 41) hx hb d_Cs_jobsNotDone_12 (by decide) ⟨by omega, by omega⟩ ⟨by omega, by omega⟩ (fun c12 => ?_) (fun c12 => ?_)
      · refine lv_iload_n hx hb d_Cs_jobsNotDone_41 rfl (lv_at hl 1 rfl) ?_
        exact ro_iret hx hb hr hlocks d_Cs_jobsNotDone_42 (congrArg iZ (by rw [hv]; rfl))
      · exfalso; omega
    | succ f ih =>
      intro i k hif hv ls hl
      refine lv_iload_n hx hb d_Cs_jobsNotDone_4 rfl (lv_at hl 0 rfl) ?_
      refine lv_aload_n hx hb d_Cs_jobsNotDone_5 rfl (lv_at hl 2 rfl) ?_
      refine fw_get (ci := 4) (v := .ref (aTl A)) (C := rCs) (T := fCs) (N := 4) hx hb hts iCs hown hK hP hc0 rfl 0 (by decide) (hts _ t_124) (fun _ h9 => h9) rfl d_Cs_jobsNotDone_6 ?_
      refine fw_ro (r := .int (iZ ((mN M : Int)))) (va_runV (As := []) (rest := [.int (iZ ((i : Int)))]) ⟨hx, hb, hml, hown, hts⟩ (c_AL_size l g w (aTl A) (aTe A) (aMo A) ((mN M : Int)) htl) (cwV 0 hts (gdV k_AL_size t_144 t_145 t_146 t_48) rfl rfl rfl (by decide +kernel) ⟨Nat.le_of_ble_eq_true rfl, Nat.le_of_ble_eq_true rfl⟩) ⟨roP_blind, fw_recv hK hP htl rfl, roP_pre hK hP⟩ rfl rfl hl.1 rfl (lv_room (Nat.le_of_ble_eq_true rfl)) d_Cs_jobsNotDone_9 ⟨by decide, by decide⟩) ?_
      refine zz_icmp_ge (tgt := 41) hx hb d_Cs_jobsNotDone_12 (by decide) ⟨by omega, by omega⟩ ⟨by omega, by omega⟩ (fun c12 => ?_) (fun c12 => ?_)
      · exfalso; omega
      · refine lv_iload_n hx hb d_Cs_jobsNotDone_15 rfl (lv_at hl 1 rfl) ?_
        refine lv_aload_n hx hb d_Cs_jobsNotDone_16 rfl (lv_at hl 2 rfl) ?_
        refine fw_get (ci := 4) (v := .ref (aTl A)) (C := rCs) (T := fCs) (N := 4) hx hb hts iCs hown hK hP hc0 rfl 0 (by decide) (hts _ t_124) (fun _ h9 => h9) rfl d_Cs_jobsNotDone_17 ?_
        refine lv_iload_n hx hb d_Cs_jobsNotDone_20 rfl (lv_at hl 0 rfl) ?_
        refine fw_ro (r := .ref (aTk A i)) (va_runV (As := [.int (iZ ((i : Int)))]) (rest := [.int (iZ k)]) ⟨hx, hb, hml, hown, hts⟩ (c_AL_get l g w (aTl A) (aTe A) (aMo A) (mN M) (aQf A) i (aTk A i) htl (hC.te (by omega)) (by omega) (by omega) (hC.qf i (by omega))) (cwV 1 hts (gdV k_AL_get t_289 t_290 t_291 t_48) rfl rfl rfl (by decide +kernel) ⟨Nat.le_of_ble_eq_true rfl, Nat.le_of_ble_eq_true rfl⟩) ⟨roP_blind, fw_recv hK hP htl rfl, roP_pre hK hP⟩ rfl rfl hl.1 rfl (lv_room (Nat.le_of_ble_eq_true rfl)) d_Cs_jobsNotDone_21 ⟨by decide, by decide⟩) ?_
        obtain ⟨kti, ksli, ks0i, ksei, kqfi, ksai, kjqi, krai⟩ := hC.tk i (by omega)
        obtain ⟨rperi, rcsti, rddli, rprii, rnsi, rSi, rnxi, rfri, rndi, rufi, rrli, rlri, rgri, rrei, rlxi⟩ := itk i (by omega)
        refine fw_cast (T := fTa) (N := 8) hx hb hown (hts _ t_148) hK hP kti rfl d_Cs_jobsNotDone_24 ?_
        refine fw_getN (ci := 3) (v := .ref (aJq A i)) (C := rTa) (T := fTa) (N := 8) (index := 89) (ref := "CeilingScheduler$Task") (host := "CeilingScheduler") hx hb hts iTa hown hK hP kti rfl 6 (by decide) n_205 (fun _ h9 => h9) rfl d_Cs_jobsNotDone_27 ?_
        refine fw_getN (ci := 1) (v := .int (iZ (dNd (mTd M i)))) (C := rJq) (T := fJq) (N := 8) (index := 123) (ref := "CeilingScheduler$JobQueue") (host := "CeilingScheduler") hx hb hts iJq hown hK hP kjqi rfl 2 (by decide) n_165 (fun _ h9 => h9) rfl d_Cs_jobsNotDone_30 ?_
        refine zz_iadd hx hb d_Cs_jobsNotDone_33 ?_
        refine lv_istore_n (lv' := [(1, .int (iZ (k + (dNd (mTd M i))))), (2, .int (iZ ((i : Int)))), (0, .ref a)]) hx hb d_Cs_jobsNotDone_34 rfl hl (by decide) rfl (fun ls hl => ?_)
        refine lv_iinc (v := iZ (((i : Int)) + 1)) (lv' := [(2, .int (iZ (((i : Int)) + 1))), (1, .int (iZ (k + (dNd (mTd M i))))), (0, .ref a)]) hx hb d_Cs_jobsNotDone_35 hl (k := 1) rfl (iZ_add _ _) (by decide) rfl (fun ls hl => ?_)
        refine lv_goto (tgt := 4) hx hb d_Cs_jobsNotDone_38 (by decide) ?_
        exact ih (i + 1) (k + (dNd (mTd M i))) (by omega) (by rw [hv, jnF]) ls (lv_sub hl [0, 1, 2] rfl)
  exact lp (mN M) 0 0 (by omega) rfl ls (lv_sub hl [0, 1, 2] rfl)

set_option maxHeartbeats 4000000 in
set_option maxRecDepth 100000 in
theorem c_Cs_choose (l : Launch) (g : GG) (w : fw) (a : Nat) (A : ADT) (M : CsM) (tb : Int) (hC : CsP g w a A M) (hI : CsI M tb) : RO l y_Cs_chooseTask w_Cs_chooseTask ({ frames := 6, cells := 0, slots := 0, locals := 136 }) g w [.ref a] (.int (iZ (chM M))) := by
  refine ro_go (by decide) rfl (Nat.le_of_ble_eq_true rfl) ?_
  intro p e s m below meth c hx hb hr hml hown hts hlocks hK hP ls hl
  have hown : s.vm.findClass rCs = some m.cls := hown
  have hl : lv_has ls 3 [(0, .ref a)] := hl
  have hI0 := hI
  have hc0 := hC.c0
  have htl := hC.tl
  have hca := hC.ca
  have hhi := hC.hi
  have hha := hC.ha
  obtain ⟨itb, in6, iti, ilr, iln, ice, itk⟩ := hI
  refine lv_bipush (v := iZ (-3)) hx hb d_Cs_chooseTask_0 (by decide) ?_
  refine lv_istore_n (lv' := [(1, .int (iZ (-3))), (0, .ref a)]) hx hb d_Cs_chooseTask_2 rfl hl (by decide) rfl (fun ls hl => ?_)
  refine lv_iconst (v := iZ 0) hx hb d_Cs_chooseTask_3 rfl ?_
  refine lv_istore_n (lv' := [(2, .int (iZ 0)), (1, .int (iZ (-3))), (0, .ref a)]) hx hb d_Cs_chooseTask_4 rfl hl (by decide) rfl (fun ls hl => ?_)
  have lp : ∀ (f i : Nat) (k : Int), i + f = mN M → (chM M = chF M f i k) → (k = -3 ∨ ∃ b : Nat, b < mN M ∧ k = (b : Int)) → ∀ ls : Array Slot, lv_has ls 3 [(2, .int (iZ ((i : Int)))), (1, .int (iZ k)), (0, .ref a)] → W p l e ({ frames := 6, cells := 0, slots := 0, locals := 136 }) s m ([.ref a] : List Value).toArray below meth c s.heap [] 0 0 (MQ below (k2_QcV (.int (iZ (chM M)))) ([.ref a] : List Value).toArray s 0 0 (fun _ => False)) (F0 m 5 ls []) := by
    intro f
    induction f with
    | zero =>
      intro i k hif hv hk ls hl
      refine lv_iload_n hx hb d_Cs_chooseTask_5 rfl (lv_at hl 0 rfl) ?_
      refine lv_aload_n hx hb d_Cs_chooseTask_6 rfl (lv_at hl 2 rfl) ?_
      refine fw_get (ci := 4) (v := .ref (aTl A)) (C := rCs) (T := fCs) (N := 4) hx hb hts iCs hown hK hP hc0 rfl 0 (by decide) (hts _ t_124) (fun _ h9 => h9) rfl d_Cs_chooseTask_7 ?_
      refine fw_ro (r := .int (iZ ((mN M : Int)))) (va_runV (As := []) (rest := [.int (iZ ((i : Int)))]) ⟨hx, hb, hml, hown, hts⟩ (c_AL_size l g w (aTl A) (aTe A) (aMo A) ((mN M : Int)) htl) (cwV 0 hts (gdV k_AL_size t_144 t_145 t_146 t_48) rfl rfl rfl (by decide +kernel) ⟨Nat.le_of_ble_eq_true rfl, Nat.le_of_ble_eq_true rfl⟩) ⟨roP_blind, fw_recv hK hP htl rfl, roP_pre hK hP⟩ rfl rfl hl.1 rfl (lv_room (Nat.le_of_ble_eq_true rfl)) d_Cs_chooseTask_10 ⟨by decide, by decide⟩) ?_
      refine zz_icmp_ge (tgt := 59) hx hb d_Cs_chooseTask_13 (by decide) ⟨by omega, by omega⟩ ⟨by omega, by omega⟩ (fun c13 => ?_) (fun c13 => ?_)
      · refine lv_iload_n hx hb d_Cs_chooseTask_59 rfl (lv_at hl 1 rfl) ?_
        exact ro_iret hx hb hr hlocks d_Cs_chooseTask_60 (congrArg iZ (by rw [hv]; rfl))
      · exfalso; omega
    | succ f ih =>
      intro i k hif hv hk ls hl
      refine lv_iload_n hx hb d_Cs_chooseTask_5 rfl (lv_at hl 0 rfl) ?_
      refine lv_aload_n hx hb d_Cs_chooseTask_6 rfl (lv_at hl 2 rfl) ?_
      refine fw_get (ci := 4) (v := .ref (aTl A)) (C := rCs) (T := fCs) (N := 4) hx hb hts iCs hown hK hP hc0 rfl 0 (by decide) (hts _ t_124) (fun _ h9 => h9) rfl d_Cs_chooseTask_7 ?_
      refine fw_ro (r := .int (iZ ((mN M : Int)))) (va_runV (As := []) (rest := [.int (iZ ((i : Int)))]) ⟨hx, hb, hml, hown, hts⟩ (c_AL_size l g w (aTl A) (aTe A) (aMo A) ((mN M : Int)) htl) (cwV 0 hts (gdV k_AL_size t_144 t_145 t_146 t_48) rfl rfl rfl (by decide +kernel) ⟨Nat.le_of_ble_eq_true rfl, Nat.le_of_ble_eq_true rfl⟩) ⟨roP_blind, fw_recv hK hP htl rfl, roP_pre hK hP⟩ rfl rfl hl.1 rfl (lv_room (Nat.le_of_ble_eq_true rfl)) d_Cs_chooseTask_10 ⟨by decide, by decide⟩) ?_
      refine zz_icmp_ge (tgt := 59) hx hb d_Cs_chooseTask_13 (by decide) ⟨by omega, by omega⟩ ⟨by omega, by omega⟩ (fun c13 => ?_) (fun c13 => ?_)
      · exfalso; omega
      · refine lv_aload_n hx hb d_Cs_chooseTask_16 rfl (lv_at hl 2 rfl) ?_
        refine fw_get (ci := 4) (v := .ref (aTl A)) (C := rCs) (T := fCs) (N := 4) hx hb hts iCs hown hK hP hc0 rfl 0 (by decide) (hts _ t_124) (fun _ h9 => h9) rfl d_Cs_chooseTask_17 ?_
        refine lv_iload_n hx hb d_Cs_chooseTask_20 rfl (lv_at hl 0 rfl) ?_
        refine fw_ro (r := .ref (aTk A i)) (va_runV (As := [.int (iZ ((i : Int)))]) (rest := []) ⟨hx, hb, hml, hown, hts⟩ (c_AL_get l g w (aTl A) (aTe A) (aMo A) (mN M) (aQf A) i (aTk A i) htl (hC.te (by omega)) (by omega) (by omega) (hC.qf i (by omega))) (cwV 1 hts (gdV k_AL_get t_289 t_290 t_291 t_48) rfl rfl rfl (by decide +kernel) ⟨Nat.le_of_ble_eq_true rfl, Nat.le_of_ble_eq_true rfl⟩) ⟨roP_blind, fw_recv hK hP htl rfl, roP_pre hK hP⟩ rfl rfl hl.1 rfl (lv_room (Nat.le_of_ble_eq_true rfl)) d_Cs_chooseTask_21 ⟨by decide, by decide⟩) ?_
        obtain ⟨kti, ksli, ks0i, ksei, kqfi, ksai, kjqi, krai⟩ := hC.tk i (by omega)
        obtain ⟨rperi, rcsti, rddli, rprii, rnsi, rSi, rnxi, rfri, rndi, rufi, rrli, rlri, rgri, rrei, rlxi⟩ := itk i (by omega)
        refine fw_cast (T := fTa) (N := 8) hx hb hown (hts _ t_148) hK hP kti rfl d_Cs_chooseTask_24 ?_
        refine fw_getN (ci := 3) (v := .ref (aJq A i)) (C := rTa) (T := fTa) (N := 8) (index := 89) (ref := "CeilingScheduler$Task") (host := "CeilingScheduler") hx hb hts iTa hown hK hP kti rfl 6 (by decide) n_205 (fun _ h9 => h9) rfl d_Cs_chooseTask_27 ?_
        refine fw_ro (r := .int (bZ (decide (dNd (mTd M i) = 0)))) (va_runVN (As := []) (rest := []) ⟨hx, hb, hml, hown, hts⟩ (c_Jq_isEmpty l g w (aJq A i) (aRa A i) (dFr (mTd M i)) (dNd (mTd M i)) (dUf (mTd M i)) (dRl (mTd M i)) (dLr (mTd M i)) (dDl (mTd M i)) (dGr (mTd M i)) kjqi ⟨by omega, by omega⟩) ⟨va_cnB 0 hts (gdT k_Jq_isEmpty) rfl rfl rfl (hK.2.1 _ n_393) (hts _ t_52) (by decide +kernel) ⟨Nat.le_of_ble_eq_true rfl, Nat.le_of_ble_eq_true rfl⟩, hts _ t_395, hts _ t_15⟩ ⟨roP_blind, fw_recv hK hP kjqi rfl, roP_pre hK hP⟩ rfl rfl hl.1 rfl (lv_room (Nat.le_of_ble_eq_true rfl)) d_Cs_chooseTask_30 ⟨by decide, by decide⟩) ?_
        refine zb_if_ne (tgt := 53) hx hb d_Cs_chooseTask_33 (by decide) (fun c33 => ?_) (fun c33 => ?_)
        · refine lv_iinc (v := iZ (((i : Int)) + 1)) (lv' := [(2, .int (iZ (((i : Int)) + 1))), (1, .int (iZ k)), (0, .ref a)]) hx hb d_Cs_chooseTask_53 hl (k := 0) rfl (iZ_add _ _) (by decide) rfl (fun ls hl => ?_)
          refine lv_goto (tgt := 5) hx hb d_Cs_chooseTask_56 (by decide) ?_
          exact ih (i + 1) k (by omega) (by rw [hv, chF, if_neg (fun q => q.1 (of_decide_eq_true c33))]) hk ls (lv_sub hl [0, 1, 2] rfl)
        · refine lv_iload_n hx hb d_Cs_chooseTask_36 rfl (lv_at hl 1 rfl) ?_
          refine lv_bipush (v := iZ (-3)) hx hb d_Cs_chooseTask_37 (by decide) ?_
          refine zz_icmp_eq (tgt := 51) hx hb d_Cs_chooseTask_39 (by decide) (by rcases hk with z | ⟨b, z1, z2⟩ <;> constructor <;> omega) ⟨by omega, by omega⟩ (fun c39 => ?_) (fun c39 => ?_)
          · refine lv_iload_n hx hb d_Cs_chooseTask_51 rfl (lv_at hl 0 rfl) ?_
            refine lv_istore_n (lv' := [(1, .int (iZ ((i : Int)))), (2, .int (iZ ((i : Int)))), (0, .ref a)]) hx hb d_Cs_chooseTask_52 rfl hl (by decide) rfl (fun ls hl => ?_)
            refine lv_iinc (v := iZ (((i : Int)) + 1)) (lv' := [(2, .int (iZ (((i : Int)) + 1))), (1, .int (iZ ((i : Int)))), (0, .ref a)]) hx hb d_Cs_chooseTask_53 hl (k := 1) rfl (iZ_add _ _) (by decide) rfl (fun ls hl => ?_)
            refine lv_goto (tgt := 5) hx hb d_Cs_chooseTask_56 (by decide) ?_
            exact ih (i + 1) ((i : Int)) (by omega) (by rw [hv, chF, if_pos ⟨of_decide_eq_false c33, Or.inl c39⟩]) (Or.inr ⟨i, by omega, rfl⟩) ls (lv_sub hl [0, 1, 2] rfl)
          · obtain ⟨b, hbn, rfl⟩ := hk.resolve_left c39
            refine lv_aload_n hx hb d_Cs_chooseTask_42 rfl (lv_at hl 2 rfl) ?_
            refine lv_iload_n hx hb d_Cs_chooseTask_43 rfl (lv_at hl 0 rfl) ?_
            refine lv_iload_n hx hb d_Cs_chooseTask_44 rfl (lv_at hl 1 rfl) ?_
            refine fw_ro (r := .int (bZ (gbM M i b))) (va_runV (As := [.int (iZ ((i : Int))), .int (iZ ((b : Int)))]) (rest := []) ⟨hx, hb, hml, hown, hts⟩ (c_Cs_before l g w a A M tb i b hC hI0 (by omega) (by omega)) (cwV 2 hts (gdV k_Cs_goesBefore t_397 t_399 t_16 t_45) rfl rfl rfl (by decide +kernel) ⟨Nat.le_of_ble_eq_true rfl, Nat.le_of_ble_eq_true rfl⟩) ⟨roP_blind, fw_recv hK hP hc0 rfl, roP_pre hK hP⟩ rfl rfl hl.1 rfl (lv_room (Nat.le_of_ble_eq_true rfl)) d_Cs_chooseTask_45 ⟨by decide, by decide⟩) ?_
            refine zb_if_eq (tgt := 53) hx hb d_Cs_chooseTask_48 (by decide) (fun c48 => ?_) (fun c48 => ?_)
            · refine lv_iinc (v := iZ (((i : Int)) + 1)) (lv' := [(2, .int (iZ (((i : Int)) + 1))), (1, .int (iZ ((b : Int)))), (0, .ref a)]) hx hb d_Cs_chooseTask_53 hl (k := 0) rfl (iZ_add _ _) (by decide) rfl (fun ls hl => ?_)
              refine lv_goto (tgt := 5) hx hb d_Cs_chooseTask_56 (by decide) ?_
              exact ih (i + 1) ((b : Int)) (by omega) (by rw [hv, chF, if_neg (fun q => q.2.elim c39 (fun z => by rw [Int.toNat_natCast, c48] at z; cases z))]) (Or.inr ⟨b, hbn, rfl⟩) ls (lv_sub hl [0, 1, 2] rfl)
            · refine lv_iload_n hx hb d_Cs_chooseTask_51 rfl (lv_at hl 0 rfl) ?_
              refine lv_istore_n (lv' := [(1, .int (iZ ((i : Int)))), (2, .int (iZ ((i : Int)))), (0, .ref a)]) hx hb d_Cs_chooseTask_52 rfl hl (by decide) rfl (fun ls hl => ?_)
              refine lv_iinc (v := iZ (((i : Int)) + 1)) (lv' := [(2, .int (iZ (((i : Int)) + 1))), (1, .int (iZ ((i : Int)))), (0, .ref a)]) hx hb d_Cs_chooseTask_53 hl (k := 1) rfl (iZ_add _ _) (by decide) rfl (fun ls hl => ?_)
              refine lv_goto (tgt := 5) hx hb d_Cs_chooseTask_56 (by decide) ?_
              exact ih (i + 1) ((i : Int)) (by omega) (by rw [hv, chF, if_pos ⟨of_decide_eq_false c33, Or.inr (by rw [Int.toNat_natCast]; exact c48)⟩]) (Or.inr ⟨i, by omega, rfl⟩) ls (lv_sub hl [0, 1, 2] rfl)
  exact lp (mN M) 0 ((-3)) (by omega) rfl (Or.inl rfl) ls (lv_sub hl [0, 1, 2] rfl)
