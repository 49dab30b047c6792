def jlM (M : CsM) (i : Nat) : Int := jlC (dRel (mTd M i)) (dFr (mTd M i)) (hTi (mHi M)) (sDdl (mTs M i)) (dNd (mTd M i)).toNat 0 (dDl (mTd M i))
def tlN (M : CsM) (t : Nat) (wh : Int) : Int :=
  if wh = 0 then dRl (mTd M t) else if wh = 1 then dRl (mTd M t) - dNd (mTd M t) else if wh = 2 then jlM M t else if wh = 3 then dGr (mTd M t)
  else if wh = 4 then (if dNd (mTd M t) = 0 then -3 else dUf (mTd M t)) else if wh = 5 then (if dNd (mTd M t) = 0 then -3 else acP M t)
  else if wh = 6 then (if dNd (mTd M t) = 0 then -3 else frM M t) else -1
def tlM (M : CsM) (v wh : Int) : Int := if v < 0 ∨ (mN M : Int) - 1 < v then -1 else tlN M v.toNat wh
theorem tlM_in {M : CsM} {t : Nat} {wh : Int} (h : t < mN M) : tlM M (t : Int) wh = tlN M t wh := by rw [tlM, if_neg (by omega)]; rfl
theorem tlN_out {M : CsM} {t : Nat} {wh : Int} (h : wh < 0 ∨ 6 < wh) : tlN M t wh = -1 := by
  unfold tlN
  repeat rw [if_neg (by omega)]
def hoF (M : CsM) (ob : Int) : Nat → Nat → Int
  | 0, _ => -3
  | f + 1, i => if hdM M i = ob then (i : Int) else hoF M ob f (i + 1)
def hoM (M : CsM) (ob : Int) : Int := if ob < 0 ∨ 3 < ob then -1 else hoF M ob (mN M) 0
def tmM (M : CsM) (x : Int) : Int := if 0 ≤ x ∧ x < hTi (mHi M) ∧ hTi (mHi M) - 64 ≤ x then hOf (mHi M) (x % 64).toNat else -1
def cnM (M : CsM) (x : Int) : Int :=
  if x = 0 then hTi (mHi M) else if x = 1 then hId (mHi M) else if x = 2 then hSw (mHi M) else if x = 3 then (mN M : Int) else if x = 4 then jnM M else if x = 5 then (if abM M = true then 1 else 0) else -1
theorem cnM_out {M : CsM} {x : Int} (h : x < 0 ∨ 5 < x) : cnM M x = -1 := by
  unfold cnM
  repeat rw [if_neg (by omega)]
def blM (M : CsM) (v : Int) : Int := if v < 0 ∨ (mN M : Int) - 1 < v then -1 else bkM M v.toNat
def bdM (M : CsM) (v : Int) : Int := if v < 0 ∨ (mN M : Int) - 1 < v then -1 else boM M v.toNat
set_option maxHeartbeats 4000000 in
set_option maxRecDepth 100000 in
theorem c_Cs_ran (l : Launch) (g : GG) (w : fw) (a : Nat) (A : ADT) (M : CsM) (tb : Int) (hC : CsP g w a A M) (hI : CsI M tb) : RO l y_Cs_ran w_Cs_ran ({ frames := 0, cells := 0, slots := 0, locals := 0 }) g w [.ref a] (.int (iZ (hLr (mHi M)))) := by
  refine ro_go (by decide) rfl (Nat.le_of_ble_eq_true rfl) ?_
  intro p e s m below meth c hx hb hr hml hown hts hlocks hK hP ls hl
  have hown : s.vm.findClass rCs = some m.cls := hown
  have hl : lv_has ls 1 [(0, .ref a)] := hl
  have hI0 := hI
  have hc0 := hC.c0
  have htl := hC.tl
  have hca := hC.ca
  have hhi := hC.hi
  have hha := hC.ha
  obtain ⟨itb, in6, iti, ilr, iln, ice, itk⟩ := hI
  refine lv_aload_n hx hb d_Cs_ran_0 rfl (lv_at hl 0 rfl) ?_
  refine fw_get (ci := 4) (v := .ref (aHi A)) (C := rCs) (T := fCs) (N := 4) hx hb hts iCs hown hK hP hc0 rfl 2 (by decide) (hts _ t_126) (fun _ h9 => h9) rfl d_Cs_ran_1 ?_
  refine fw_getN (ci := 0) (v := .int (iZ (hLr (mHi M)))) (C := rHi) (T := fHi) (N := 6) (index := 117) (ref := "CeilingScheduler$History") (host := "CeilingScheduler") hx hb hts iHi hown hK hP hhi rfl 4 (by decide) n_108 (fun _ h9 => h9) rfl d_Cs_ran_4 ?_
  exact ro_iret hx hb hr hlocks d_Cs_ran_7 rfl

set_option maxHeartbeats 4000000 in
set_option maxRecDepth 100000 in
theorem c_Cs_tell (l : Launch) (g : GG) (w : fw) (a : Nat) (A : ADT) (M : CsM) (tb : Int) (v wh : Int) (hC : CsP g w a A M) (hI : CsI M tb) (hr_0 : ir v) (hr_1 : ir wh) : RO l y_Cs_tell w_Cs_tell ({ frames := 5, cells := 0, slots := 0, locals := 108 }) g w [.ref a, .int (iZ v), .int (iZ wh)] (.int (iZ (tlM M v wh))) := by
  refine ro_go (by decide) rfl (Nat.le_of_ble_eq_true rfl) ?_
  intro p e s m below meth c hx hb hr hml hown hts hlocks hK hP ls hl
  have hown : s.vm.findClass rCs = some m.cls := hown
  have hl : lv_has ls 5 [(0, .ref a), (1, .int (iZ v)), (2, .int (iZ wh))] := hl
  have hI0 := hI
  have hc0 := hC.c0
  have htl := hC.tl
  have hca := hC.ca
  have hhi := hC.hi
  have hha := hC.ha
  obtain ⟨itb, in6, iti, ilr, iln, ice, itk⟩ := hI
  obtain ⟨hr_0a, hr_0b⟩ := hr_0
  obtain ⟨hr_1a, hr_1b⟩ := hr_1
  refine lv_aload_n hx hb d_Cs_tell_0 rfl (lv_at hl 0 rfl) ?_
  refine lv_iload_n hx hb d_Cs_tell_1 rfl (lv_at hl 1 rfl) ?_
  refine fw_ro (r := .int (bZ (decide (v < 0 ∨ (mN M : Int) - 1 < v)))) (va_runV (As := [.int (iZ v)]) (rest := []) ⟨hx, hb, hml, hown, hts⟩ (c_Cs_noTask l g w a A M tb v hC hI0 ⟨by omega, by omega⟩) (cwV 1 hts (gdV k_Cs_isNoTask t_315 t_317 t_5 t_45) rfl rfl rfl (by decide +kernel) ⟨Nat.le_of_ble_eq_true rfl, Nat.le_of_ble_eq_true rfl⟩) ⟨roP_blind, fw_recv hK hP hc0 rfl, roP_pre hK hP⟩ rfl rfl hl.1 rfl (lv_room (Nat.le_of_ble_eq_true rfl)) d_Cs_tell_2 ⟨by decide, by decide⟩) ?_
  refine zb_if_eq (tgt := 10) hx hb d_Cs_tell_5 (by decide) (fun c5 => ?_) (fun c5 => ?_)
  · have nc5 := of_decide_eq_false c5
    obtain ⟨t, et⟩ := Int.eq_ofNat_of_zero_le (show 0 ≤ v by omega)
    subst et
    have htn : t < mN M := by omega
    refine lv_aload_n hx hb d_Cs_tell_10 rfl (lv_at hl 0 rfl) ?_
    refine fw_get (ci := 4) (v := .ref (aTl A)) (C := rCs) (T := fCs) (N := 4) hx hb hts iCs hown hK hP hc0 rfl 0 (by decide) (hts _ t_124) (fun _ h9 => h9) rfl d_Cs_tell_11 ?_
    refine lv_iload_n hx hb d_Cs_tell_14 rfl (lv_at hl 1 rfl) ?_
    refine fw_ro (r := .ref (aTk A t)) (va_runV (As := [.int (iZ ((t : Int)))]) (rest := []) ⟨hx, hb, hml, hown, hts⟩ (c_AL_get l g w (aTl A) (aTe A) (aMo A) (mN M) (aQf A) t (aTk A t) htl (hC.te (by omega)) (by omega) (by omega) (hC.qf t (by omega))) (cwV 1 hts (gdV k_AL_get t_289 t_290 t_291 t_48) rfl rfl rfl (by decide +kernel) ⟨Nat.le_of_ble_eq_true rfl, Nat.le_of_ble_eq_true rfl⟩) ⟨roP_blind, fw_recv hK hP htl rfl, roP_pre hK hP⟩ rfl rfl hl.1 rfl (lv_room (Nat.le_of_ble_eq_true rfl)) d_Cs_tell_15 ⟨by decide, by decide⟩) ?_
    obtain ⟨ktt, kslt, ks0t, kset, kqft, ksat, kjqt, krat⟩ := hC.tk t (by omega)
    obtain ⟨rpert, rcstt, rddlt, rprit, rnst, rSt, rnxt, rfrt, rndt, ruft, rrlt, rlrt, rgrt, rret, rlxt⟩ := itk t (by omega)
    refine fw_cast (T := fTa) (N := 8) hx hb hown (hts _ t_148) hK hP ktt rfl d_Cs_tell_18 ?_
    refine lv_astore_n (lv' := [(3, .ref (aTk A t)), (0, .ref a), (1, .int (iZ ((t : Int)))), (2, .int (iZ wh))]) hx hb d_Cs_tell_21 rfl hl (by decide) rfl (fun ls hl => ?_)
    refine lv_aload_n hx hb d_Cs_tell_22 rfl (lv_at hl 0 rfl) ?_
    refine fw_getN (ci := 3) (v := .ref (aJq A t)) (C := rTa) (T := fTa) (N := 8) (index := 89) (ref := "CeilingScheduler$Task") (host := "CeilingScheduler") hx hb hts iTa hown hK hP ktt rfl 6 (by decide) n_205 (fun _ h9 => h9) rfl d_Cs_tell_23 ?_
    refine lv_astore (lv' := [(4, .ref (aJq A t)), (3, .ref (aTk A t)), (0, .ref a), (1, .int (iZ ((t : Int)))), (2, .int (iZ wh))]) hx hb d_Cs_tell_26 hl (by decide) rfl (fun ls hl => ?_)
    refine lv_iload_n hx hb d_Cs_tell_28 rfl (lv_at hl 4 rfl) ?_
    have sw29 : wh = 0 ∨ wh = 1 ∨ wh = 2 ∨ wh = 3 ∨ wh = 4 ∨ wh = 5 ∨ wh = 6 ∨ (wh < 0 ∨ 6 < wh) := by omega
    rcases sw29 with s29 | s29 | s29 | s29 | s29 | s29 | s29 | s29
    · refine zz_tableIn (tgt := 72) (off := 43) hx hb d_Cs_tell_29 ⟨by omega, by omega⟩ 0 (by omega) (by omega) rfl (by decide) ?_
      refine lv_aload hx hb d_Cs_tell_72 (lv_at hl 0 rfl) ?_
      refine fw_getN (ci := 1) (v := .int (iZ (dRl (mTd M t)))) (C := rJq) (T := fJq) (N := 8) (index := 120) (ref := "CeilingScheduler$JobQueue") (host := "CeilingScheduler") hx hb hts iJq hown hK hP kjqt rfl 4 (by decide) n_170 (fun _ h9 => h9) rfl d_Cs_tell_74 ?_
      exact ro_iret hx hb hr hlocks d_Cs_tell_77 (congrArg iZ (by rw [tlM_in htn, s29]; rfl))
    · refine zz_tableIn (tgt := 78) (off := 49) hx hb d_Cs_tell_29 ⟨by omega, by omega⟩ 1 (by omega) (by omega) rfl (by decide) ?_
      refine lv_aload hx hb d_Cs_tell_78 (lv_at hl 0 rfl) ?_
      refine fw_getN (ci := 1) (v := .int (iZ (dRl (mTd M t)))) (C := rJq) (T := fJq) (N := 8) (index := 120) (ref := "CeilingScheduler$JobQueue") (host := "CeilingScheduler") hx hb hts iJq hown hK hP kjqt rfl 4 (by decide) n_170 (fun _ h9 => h9) rfl d_Cs_tell_80 ?_
      refine lv_aload hx hb d_Cs_tell_83 (lv_at hl 0 rfl) ?_
      refine fw_getN (ci := 1) (v := .int (iZ (dNd (mTd M t)))) (C := rJq) (T := fJq) (N := 8) (index := 123) (ref := "CeilingScheduler$JobQueue") (host := "CeilingScheduler") hx hb hts iJq hown hK hP kjqt rfl 2 (by decide) n_165 (fun _ h9 => h9) rfl d_Cs_tell_85 ?_
      refine zz_isub hx hb d_Cs_tell_88 ?_
      exact ro_iret hx hb hr hlocks d_Cs_tell_89 (congrArg iZ (by rw [tlM_in htn, s29]; rfl))
    · refine zz_tableIn (tgt := 90) (off := 61) hx hb d_Cs_tell_29 ⟨by omega, by omega⟩ 2 (by omega) (by omega) rfl (by decide) ?_
      refine lv_aload hx hb d_Cs_tell_90 (lv_at hl 0 rfl) ?_
      refine lv_aload_n hx hb d_Cs_tell_92 rfl (lv_at hl 2 rfl) ?_
      refine fw_get (ci := 4) (v := .ref (aHi A)) (C := rCs) (T := fCs) (N := 4) hx hb hts iCs hown hK hP hc0 rfl 2 (by decide) (hts _ t_126) (fun _ h9 => h9) rfl d_Cs_tell_93 ?_
      refine fw_getN (ci := 0) (v := .int (iZ (hTi (mHi M)))) (C := rHi) (T := fHi) (N := 6) (index := 96) (ref := "CeilingScheduler$History") (host := "CeilingScheduler") hx hb hts iHi hown hK hP hhi rfl 1 (by decide) n_102 (fun _ h9 => h9) rfl d_Cs_tell_96 ?_
      refine lv_aload_n hx hb d_Cs_tell_99 rfl (lv_at hl 1 rfl) ?_
      refine fw_getN (ci := 3) (v := .int (iZ (sDdl (mTs M t)))) (C := rTa) (T := fTa) (N := 8) (index := 126) (ref := "CeilingScheduler$Task") (host := "CeilingScheduler") hx hb hts iTa hown hK hP ktt rfl 2 (by decide) n_197 (fun _ h9 => h9) rfl d_Cs_tell_100 ?_
      refine fw_ro (r := .int (iZ (jlM M t))) (va_runVN (As := [.int (iZ (hTi (mHi M))), .int (iZ (sDdl (mTs M t)))]) (rest := []) ⟨hx, hb, hml, hown, hts⟩ (c_Jq_late l g w (aJq A t) (aRa A t) (dFr (mTd M t)) (dNd (mTd M t)) (dUf (mTd M t)) (dRl (mTd M t)) (dLr (mTd M t)) (dDl (mTd M t)) (dGr (mTd M t)) (dRel (mTd M t)) (hTi (mHi M)) (sDdl (mTs M t)) kjqt krat rfrt rndt (fun k => ⟨(rret k).1, by have := (rret k).2; omega⟩) ⟨by omega, by omega⟩ ⟨by omega, by omega⟩) ⟨va_cnB 2 hts (gdT k_Jq_lateAt) rfl rfl rfl (hK.2.1 _ n_442) (hts _ t_52) (by decide +kernel) ⟨Nat.le_of_ble_eq_true rfl, Nat.le_of_ble_eq_true rfl⟩, hts _ t_444, hts _ t_24⟩ ⟨roP_blind, fw_recv hK hP kjqt rfl, roP_pre hK hP⟩ rfl rfl hl.1 rfl (lv_room (Nat.le_of_ble_eq_true rfl)) d_Cs_tell_103 ⟨by decide, by decide⟩) ?_
      exact ro_iret hx hb hr hlocks d_Cs_tell_106 (congrArg iZ (by rw [tlM_in htn, s29]; rfl))
    · refine zz_tableIn (tgt := 107) (off := 78) hx hb d_Cs_tell_29 ⟨by omega, by omega⟩ 3 (by omega) (by omega) rfl (by decide) ?_
      refine lv_aload hx hb d_Cs_tell_107 (lv_at hl 0 rfl) ?_
      refine fw_getN (ci := 1) (v := .int (iZ (dGr (mTd M t)))) (C := rJq) (T := fJq) (N := 8) (index := 133) (ref := "CeilingScheduler$JobQueue") (host := "CeilingScheduler") hx hb hts iJq hown hK hP kjqt rfl 7 (by decide) n_174 (fun _ h9 => h9) rfl d_Cs_tell_109 ?_
      exact ro_iret hx hb hr hlocks d_Cs_tell_112 (congrArg iZ (by rw [tlM_in htn, s29]; rfl))
    · refine zz_tableIn (tgt := 113) (off := 84) hx hb d_Cs_tell_29 ⟨by omega, by omega⟩ 4 (by omega) (by omega) rfl (by decide) ?_
      refine lv_aload hx hb d_Cs_tell_113 (lv_at hl 0 rfl) ?_
      refine fw_ro (r := .int (bZ (decide (dNd (mTd M t) = 0)))) (va_runVN (As := []) (rest := []) ⟨hx, hb, hml, hown, hts⟩ (c_Jq_isEmpty l g w (aJq A t) (aRa A t) (dFr (mTd M t)) (dNd (mTd M t)) (dUf (mTd M t)) (dRl (mTd M t)) (dLr (mTd M t)) (dDl (mTd M t)) (dGr (mTd M t)) kjqt ⟨by omega, by omega⟩) ⟨va_cnB 0 hts (gdT k_Jq_isEmpty) rfl rfl rfl (hK.2.1 _ n_393) (hts _ t_52) (by decide +kernel) ⟨Nat.le_of_ble_eq_true rfl, Nat.le_of_ble_eq_true rfl⟩, hts _ t_395, hts _ t_15⟩ ⟨roP_blind, fw_recv hK hP kjqt rfl, roP_pre hK hP⟩ rfl rfl hl.1 rfl (lv_room (Nat.le_of_ble_eq_true rfl)) d_Cs_tell_115 ⟨by decide, by decide⟩) ?_
      refine zb_if_eq (tgt := 126) hx hb d_Cs_tell_118 (by decide) (fun c118 => ?_) (fun c118 => ?_)
      · refine lv_aload hx hb d_Cs_tell_126 (lv_at hl 0 rfl) ?_
        refine fw_getN (ci := 1) (v := .int (iZ (dUf (mTd M t)))) (C := rJq) (T := fJq) (N := 8) (index := 137) (ref := "CeilingScheduler$JobQueue") (host := "CeilingScheduler") hx hb hts iJq hown hK hP kjqt rfl 3 (by decide) n_168 (fun _ h9 => h9) rfl d_Cs_tell_128 ?_
        exact ro_iret hx hb hr hlocks d_Cs_tell_131 (congrArg iZ (by rw [tlM_in htn, s29]; exact (if_neg (of_decide_eq_false c118)).symm))
      · refine lv_bipush (v := iZ (-3)) hx hb d_Cs_tell_121 (by decide) ?_
        refine lv_goto (tgt := 131) hx hb d_Cs_tell_123 (by decide) ?_
        exact ro_iret hx hb hr hlocks d_Cs_tell_131 (congrArg iZ (by rw [tlM_in htn, s29]; exact (if_pos (of_decide_eq_true c118)).symm))
    · refine zz_tableIn (tgt := 132) (off := 103) hx hb d_Cs_tell_29 ⟨by omega, by omega⟩ 5 (by omega) (by omega) rfl (by decide) ?_
      refine lv_aload hx hb d_Cs_tell_132 (lv_at hl 0 rfl) ?_
      refine fw_ro (r := .int (bZ (decide (dNd (mTd M t) = 0)))) (va_runVN (As := []) (rest := []) ⟨hx, hb, hml, hown, hts⟩ (c_Jq_isEmpty l g w (aJq A t) (aRa A t) (dFr (mTd M t)) (dNd (mTd M t)) (dUf (mTd M t)) (dRl (mTd M t)) (dLr (mTd M t)) (dDl (mTd M t)) (dGr (mTd M t)) kjqt ⟨by omega, by omega⟩) ⟨va_cnB 0 hts (gdT k_Jq_isEmpty) rfl rfl rfl (hK.2.1 _ n_393) (hts _ t_52) (by decide +kernel) ⟨Nat.le_of_ble_eq_true rfl, Nat.le_of_ble_eq_true rfl⟩, hts _ t_395, hts _ t_15⟩ ⟨roP_blind, fw_recv hK hP kjqt rfl, roP_pre hK hP⟩ rfl rfl hl.1 rfl (lv_room (Nat.le_of_ble_eq_true rfl)) d_Cs_tell_134 ⟨by decide, by decide⟩) ?_
      refine zb_if_eq (tgt := 145) hx hb d_Cs_tell_137 (by decide) (fun c137 => ?_) (fun c137 => ?_)
      · refine lv_aload_n hx hb d_Cs_tell_145 rfl (lv_at hl 2 rfl) ?_
        refine lv_aload_n hx hb d_Cs_tell_146 rfl (lv_at hl 1 rfl) ?_
        refine fw_ro (r := .int (iZ (acP M t))) (va_runV (As := [.ref (aTk A t)]) (rest := []) ⟨hx, hb, hml, hown, hts⟩ (c_Cs_active l g w a A M tb t hC hI0 (by omega)) (cwV 1 hts (gdV k_Cs_activePriority t_401 t_403 t_17 t_45) rfl rfl rfl (by decide +kernel) ⟨Nat.le_of_ble_eq_true rfl, Nat.le_of_ble_eq_true rfl⟩) ⟨roP_blind, fw_recv hK hP hc0 rfl, roP_pre hK hP⟩ rfl rfl hl.1 rfl (lv_room (Nat.le_of_ble_eq_true rfl)) d_Cs_tell_147 ⟨by decide, by decide⟩) ?_
        exact ro_iret hx hb hr hlocks d_Cs_tell_150 (congrArg iZ (by rw [tlM_in htn, s29]; exact (if_neg (of_decide_eq_false c137)).symm))
      · refine lv_bipush (v := iZ (-3)) hx hb d_Cs_tell_140 (by decide) ?_
        refine lv_goto (tgt := 150) hx hb d_Cs_tell_142 (by decide) ?_
        exact ro_iret hx hb hr hlocks d_Cs_tell_150 (congrArg iZ (by rw [tlM_in htn, s29]; exact (if_pos (of_decide_eq_true c137)).symm))
    · refine zz_tableIn (tgt := 151) (off := 122) hx hb d_Cs_tell_29 ⟨by omega, by omega⟩ 6 (by omega) (by omega) rfl (by decide) ?_
      refine lv_aload hx hb d_Cs_tell_151 (lv_at hl 0 rfl) ?_
      refine fw_ro (r := .int (bZ (decide (dNd (mTd M t) = 0)))) (va_runVN (As := []) (rest := []) ⟨hx, hb, hml, hown, hts⟩ (c_Jq_isEmpty l g w (aJq A t) (aRa A t) (dFr (mTd M t)) (dNd (mTd M t)) (dUf (mTd M t)) (dRl (mTd M t)) (dLr (mTd M t)) (dDl (mTd M t)) (dGr (mTd M t)) kjqt ⟨by omega, by omega⟩) ⟨va_cnB 0 hts (gdT k_Jq_isEmpty) rfl rfl rfl (hK.2.1 _ n_393) (hts _ t_52) (by decide +kernel) ⟨Nat.le_of_ble_eq_true rfl, Nat.le_of_ble_eq_true rfl⟩, hts _ t_395, hts _ t_15⟩ ⟨roP_blind, fw_recv hK hP kjqt rfl, roP_pre hK hP⟩ rfl rfl hl.1 rfl (lv_room (Nat.le_of_ble_eq_true rfl)) d_Cs_tell_153 ⟨by decide, by decide⟩) ?_
      refine zb_if_eq (tgt := 164) hx hb d_Cs_tell_156 (by decide) (fun c156 => ?_) (fun c156 => ?_)
      · refine lv_aload hx hb d_Cs_tell_164 (lv_at hl 0 rfl) ?_
        refine fw_ro (r := .int (iZ (frM M t))) (va_runVN (As := []) (rest := []) ⟨hx, hb, hml, hown, hts⟩ (c_Jq_front l g w (aJq A t) (aRa A t) (dFr (mTd M t)) (dNd (mTd M t)) (dUf (mTd M t)) (dRl (mTd M t)) (dLr (mTd M t)) (dDl (mTd M t)) (dGr (mTd M t)) (dRel (mTd M t)) kjqt krat rfrt) ⟨va_cnB 0 hts (gdT k_Jq_releaseOfFront) rfl rfl rfl (hK.2.1 _ n_413) (hts _ t_52) (by decide +kernel) ⟨Nat.le_of_ble_eq_true rfl, Nat.le_of_ble_eq_true rfl⟩, hts _ t_415, hts _ t_20⟩ ⟨roP_blind, fw_recv hK hP kjqt rfl, roP_pre hK hP⟩ rfl rfl hl.1 rfl (lv_room (Nat.le_of_ble_eq_true rfl)) d_Cs_tell_166 ⟨by decide, by decide⟩) ?_
        exact ro_iret hx hb hr hlocks d_Cs_tell_169 (congrArg iZ (by rw [tlM_in htn, s29]; exact (if_neg (of_decide_eq_false c156)).symm))
      · refine lv_bipush (v := iZ (-3)) hx hb d_Cs_tell_159 (by decide) ?_
        refine lv_goto (tgt := 169) hx hb d_Cs_tell_161 (by decide) ?_
        exact ro_iret hx hb hr hlocks d_Cs_tell_169 (congrArg iZ (by rw [tlM_in htn, s29]; exact (if_pos (of_decide_eq_true c156)).symm))
    · refine zz_tableOut (tgt := 170) hx hb d_Cs_tell_29 ⟨by omega, by omega⟩ s29 (by decide) ?_
      refine lv_iconst (v := iZ (-1)) hx hb d_Cs_tell_170 rfl ?_
      exact ro_iret hx hb hr hlocks d_Cs_tell_171 (congrArg iZ (by rw [tlM_in htn, tlN_out (by omega)]))
  · refine lv_iconst (v := iZ (-1)) hx hb d_Cs_tell_8 rfl ?_
    exact ro_iret hx hb hr hlocks d_Cs_tell_9 (congrArg iZ (by rw [tlM, if_pos (of_decide_eq_true c5)]))

set_option maxHeartbeats 4000000 in
set_option maxRecDepth 100000 in
theorem c_Cs_holder (l : Launch) (g : GG) (w : fw) (a : Nat) (A : ADT) (M : CsM) (tb : Int) (ob : Int) (hC : CsP g w a A M) (hI : CsI M tb) (hr_0 : ir ob) : RO l y_Cs_holder w_Cs_holder ({ frames := 4, cells := 0, slots := 0, locals := 86 }) g w [.ref a, .int (iZ ob)] (.int (iZ (hoM M ob))) := by
  refine ro_go (by decide) rfl (Nat.le_of_ble_eq_true rfl) ?_
  intro p e s m below meth c hx hb hr hml hown hts hlocks hK hP ls hl
  have hown : s.vm.findClass rCs = some m.cls := hown
  have hl : lv_has ls 3 [(0, .ref a), (1, .int (iZ ob))] := hl
  have hI0 := hI
  have hc0 := hC.c0
  have htl := hC.tl
  have hca := hC.ca
  have hhi := hC.hi
  have hha := hC.ha
  obtain ⟨itb, in6, iti, ilr, iln, ice, itk⟩ := hI
  obtain ⟨hr_0a, hr_0b⟩ := hr_0
  refine lv_iload_n hx hb d_Cs_holder_0 rfl (lv_at hl 1 rfl) ?_
  refine fw_ro (r := .int (bZ (decide (ob < 0 ∨ 3 < ob)))) (va_runS (As := [.int (iZ ob)]) (rest := []) ⟨hx, hb, hml, hown, hts⟩ (c_Cs_noObj l g w ob ⟨by omega, by omega⟩) (va_cwS 1 hts (gdS k_Cs_isNoObject t_282 t_283 t_45) rfl rfl rfl (by decide +kernel) ⟨Nat.le_of_ble_eq_true rfl, Nat.le_of_ble_eq_true rfl⟩) ⟨roP_blind, roP_pre hK hP⟩ rfl rfl hl.1 rfl (lv_room (Nat.le_of_ble_eq_true rfl)) d_Cs_holder_1 ⟨by decide, by decide⟩) ?_
  refine zb_if_eq (tgt := 9) hx hb d_Cs_holder_4 (by decide) (fun c4 => ?_) (fun c4 => ?_)
  · refine lv_iconst (v := iZ 0) hx hb d_Cs_holder_9 rfl ?_
    refine lv_istore_n (lv' := [(2, .int (iZ 0)), (0, .ref a), (1, .int (iZ ob))]) hx hb d_Cs_holder_10 rfl hl (by decide) rfl (fun ls hl => ?_)
    have lp : ∀ (f i : Nat), i + f = mN M → (hoM M ob = hoF M ob f i) → ∀ ls : Array Slot, lv_has ls 3 [(2, .int (iZ ((i : Int)))), (0, .ref a), (1, .int (iZ ob))] → W p l e ({ frames := 4, cells := 0, slots := 0, locals := 86 }) s m ([.ref a, .int (iZ ob)] : List Value).toArray below meth c s.heap [] 0 0 (MQ below (k2_QcV (.int (iZ (hoM M ob)))) ([.ref a, .int (iZ ob)] : List Value).toArray s 0 0 (fun _ => False)) (F0 m 11 ls []) := by
      intro f
      induction f with
      | zero =>
        intro i hif hv ls hl
        refine lv_iload_n hx hb d_Cs_holder_11 rfl (lv_at hl 0 rfl) ?_
        refine lv_aload_n hx hb d_Cs_holder_12 rfl (lv_at hl 1 rfl) ?_
        refine fw_get (ci := 4) (v := .ref (aTl A)) (C := rCs) (T := fCs) (N := 4) hx hb hts iCs hown hK hP hc0 rfl 0 (by decide) (hts _ t_124) (fun _ h9 => h9) rfl d_Cs_holder_13 ?_
        refine fw_ro (r := .int (iZ ((mN M : Int)))) (va_runV (As := []) (rest := [.int (iZ ((i : Int)))]) ⟨hx, hb, hml, hown, hts⟩ (c_AL_size l g w (aTl A) (aTe A) (aMo A) ((mN M : Int)) htl) (cwV 0 hts (gdV k_AL_size t_144 t_145 t_146 t_48) rfl rfl rfl (by decide +kernel) ⟨Nat.le_of_ble_eq_true rfl, Nat.le_of_ble_eq_true rfl⟩) ⟨roP_blind, fw_recv hK hP htl rfl, roP_pre hK hP⟩ rfl rfl hl.1 rfl (lv_room (Nat.le_of_ble_eq_true rfl)) d_Cs_holder_16 ⟨by decide, by decide⟩) ?_
        refine zz_icmp_ge (tgt := 48) hx hb d_Cs_holder_19 (by decide) ⟨by omega, by omega⟩ ⟨by omega, by omega⟩ (fun c19 => ?_) (fun c19 => ?_)
        · refine lv_bipush (v := iZ (-3)) hx hb d_Cs_holder_48 (by decide) ?_
          exact ro_iret hx hb hr hlocks d_Cs_holder_50 (congrArg iZ (by rw [hv]; rfl))
        · exfalso; omega
      | succ f ih =>
        intro i hif hv ls hl
        refine lv_iload_n hx hb d_Cs_holder_11 rfl (lv_at hl 0 rfl) ?_
        refine lv_aload_n hx hb d_Cs_holder_12 rfl (lv_at hl 1 rfl) ?_
        refine fw_get (ci := 4) (v := .ref (aTl A)) (C := rCs) (T := fCs) (N := 4) hx hb hts iCs hown hK hP hc0 rfl 0 (by decide) (hts _ t_124) (fun _ h9 => h9) rfl d_Cs_holder_13 ?_
        refine fw_ro (r := .int (iZ ((mN M : Int)))) (va_runV (As := []) (rest := [.int (iZ ((i : Int)))]) ⟨hx, hb, hml, hown, hts⟩ (c_AL_size l g w (aTl A) (aTe A) (aMo A) ((mN M : Int)) htl) (cwV 0 hts (gdV k_AL_size t_144 t_145 t_146 t_48) rfl rfl rfl (by decide +kernel) ⟨Nat.le_of_ble_eq_true rfl, Nat.le_of_ble_eq_true rfl⟩) ⟨roP_blind, fw_recv hK hP htl rfl, roP_pre hK hP⟩ rfl rfl hl.1 rfl (lv_room (Nat.le_of_ble_eq_true rfl)) d_Cs_holder_16 ⟨by decide, by decide⟩) ?_
        refine zz_icmp_ge (tgt := 48) hx hb d_Cs_holder_19 (by decide) ⟨by omega, by omega⟩ ⟨by omega, by omega⟩ (fun c19 => ?_) (fun c19 => ?_)
        · exfalso; omega
        · refine lv_aload_n hx hb d_Cs_holder_22 rfl (lv_at hl 1 rfl) ?_
          refine fw_get (ci := 4) (v := .ref (aTl A)) (C := rCs) (T := fCs) (N := 4) hx hb hts iCs hown hK hP hc0 rfl 0 (by decide) (hts _ t_124) (fun _ h9 => h9) rfl d_Cs_holder_23 ?_
          refine lv_iload_n hx hb d_Cs_holder_26 rfl (lv_at hl 0 rfl) ?_
          refine fw_ro (r := .ref (aTk A i)) (va_runV (As := [.int (iZ ((i : Int)))]) (rest := []) ⟨hx, hb, hml, hown, hts⟩ (c_AL_get l g w (aTl A) (aTe A) (aMo A) (mN M) (aQf A) i (aTk A i) htl (hC.te (by omega)) (by omega) (by omega) (hC.qf i (by omega))) (cwV 1 hts (gdV k_AL_get t_289 t_290 t_291 t_48) rfl rfl rfl (by decide +kernel) ⟨Nat.le_of_ble_eq_true rfl, Nat.le_of_ble_eq_true rfl⟩) ⟨roP_blind, fw_recv hK hP htl rfl, roP_pre hK hP⟩ rfl rfl hl.1 rfl (lv_room (Nat.le_of_ble_eq_true rfl)) d_Cs_holder_27 ⟨by decide, by decide⟩) ?_
          obtain ⟨kti, ksli, ks0i, ksei, kqfi, ksai, kjqi, krai⟩ := hC.tk i (by omega)
          obtain ⟨rperi, rcsti, rddli, rprii, rnsi, rSi, rnxi, rfri, rndi, rufi, rrli, rlri, rgri, rrei, rlxi⟩ := itk i (by omega)
          refine fw_cast (T := fTa) (N := 8) hx hb hown (hts _ t_148) hK hP kti rfl d_Cs_holder_30 ?_
          refine fw_ro (r := .int (iZ (hdM M i))) (va_runVN (As := []) (rest := []) ⟨hx, hb, hml, hown, hts⟩ (c_Ta_held l g w (aTk A i) (aSl A i) (aSe A i) (aJq A i) (aRa A i) (aSa A i) (sPer (mTs M i)) (sCst (mTs M i)) (sDdl (mTs M i)) (sPri (mTs M i)) (dNxt (mTd M i)) (sSpo (mTs M i)) (mNs M i) (mSc M i) (aMs A i) (aQs A i) (dFr (mTd M i)) (dNd (mTd M i)) (dUf (mTd M i)) (dRl (mTd M i)) (dLr (mTd M i)) (dDl (mTd M i)) (dGr (mTd M i)) kti ksli (by omega) ksei kqfi ksai rSi kjqi ⟨by omega, by omega⟩) ⟨va_cnB 0 hts (gdT k_Ta_heldObject) rfl rfl rfl (hK.2.1 _ n_405) (hts _ t_51) (by decide +kernel) ⟨Nat.le_of_ble_eq_true rfl, Nat.le_of_ble_eq_true rfl⟩, hts _ t_407, hts _ t_18⟩ ⟨roP_blind, fw_recv hK hP kti rfl, roP_pre hK hP⟩ rfl rfl hl.1 rfl (lv_room (Nat.le_of_ble_eq_true rfl)) d_Cs_holder_33 ⟨by decide, by decide⟩) ?_
          have hrg := hdM_rng M i rSi
          refine lv_iload_n hx hb d_Cs_holder_36 rfl (lv_at hl 2 rfl) ?_
          refine zz_icmp_ne (tgt := 42) hx hb d_Cs_holder_37 (by decide) ⟨by omega, by omega⟩ ⟨by omega, by omega⟩ (fun c37 => ?_) (fun c37 => ?_)
          · refine lv_iinc (v := iZ (((i : Int)) + 1)) (lv' := [(2, .int (iZ (((i : Int)) + 1))), (0, .ref a), (1, .int (iZ ob))]) hx hb d_Cs_holder_42 hl (k := 0) rfl (iZ_add _ _) (by decide) rfl (fun ls hl => ?_)
            refine lv_goto (tgt := 11) hx hb d_Cs_holder_45 (by decide) ?_
            exact ih (i + 1) (by omega) (by rw [hv, hoF, if_neg c37]) ls (lv_sub hl [0, 1, 2] rfl)
          · refine lv_iload_n hx hb d_Cs_holder_40 rfl (lv_at hl 0 rfl) ?_
            exact ro_iret hx hb hr hlocks d_Cs_holder_41 (congrArg iZ (by rw [hv, hoF, if_pos c37]))
    exact lp (mN M) 0 (by omega) (by rw [hoM, if_neg (of_decide_eq_false c4)]) ls (lv_sub hl [0, 1, 2] rfl)
  · refine lv_iconst (v := iZ (-1)) hx hb d_Cs_holder_7 rfl ?_
    exact ro_iret hx hb hr hlocks d_Cs_holder_8 (congrArg iZ (by rw [hoM, if_pos (of_decide_eq_true c4)]))

set_option maxHeartbeats 4000000 in
set_option maxRecDepth 100000 in
theorem c_Cs_timeline (l : Launch) (g : GG) (w : fw) (a : Nat) (A : ADT) (M : CsM) (tb : Int) (x : Int) (hC : CsP g w a A M) (hI : CsI M tb) (hr_0 : ir x) : RO l y_Cs_timeline w_Cs_timeline ({ frames := 2, cells := 0, slots := 0, locals := 43 }) g w [.ref a, .int (iZ x)] (.int (iZ (tmM M x))) := by
  refine ro_go (by decide) rfl (Nat.le_of_ble_eq_true rfl) ?_
  intro p e s m below meth c hx hb hr hml hown hts hlocks hK hP ls hl
  have hown : s.vm.findClass rCs = some m.cls := hown
  have hl : lv_has ls 2 [(0, .ref a), (1, .int (iZ x))] := hl
  have hI0 := hI
  have hc0 := hC.c0
  have htl := hC.tl
  have hca := hC.ca
  have hhi := hC.hi
  have hha := hC.ha
  obtain ⟨itb, in6, iti, ilr, iln, ice, itk⟩ := hI
  obtain ⟨hr_0a, hr_0b⟩ := hr_0
  refine lv_aload_n hx hb d_Cs_timeline_0 rfl (lv_at hl 0 rfl) ?_
  refine fw_get (ci := 4) (v := .ref (aHi A)) (C := rCs) (T := fCs) (N := 4) hx hb hts iCs hown hK hP hc0 rfl 2 (by decide) (hts _ t_126) (fun _ h9 => h9) rfl d_Cs_timeline_1 ?_
  refine lv_iload_n hx hb d_Cs_timeline_4 rfl (lv_at hl 1 rfl) ?_
  refine fw_ro (r := .int (bZ (decide (0 ≤ x ∧ x < hTi (mHi M) ∧ hTi (mHi M) - 64 ≤ x)))) (va_runVN (As := [.int (iZ x)]) (rest := []) ⟨hx, hb, hml, hown, hts⟩ (c_Hi_holds l g w (aHi A) (aHa A) (hTi (mHi M)) (hId (mHi M)) (hSw (mHi M)) (hLr (mHi M)) (hLn (mHi M)) x hhi ⟨by omega, by omega⟩ ⟨by omega, by omega⟩) ⟨va_cnB 1 hts (gdT k_Hi_holdsUnit) rfl rfl rfl (hK.2.1 _ n_454) (hts _ t_49) (by decide +kernel) ⟨Nat.le_of_ble_eq_true rfl, Nat.le_of_ble_eq_true rfl⟩, hts _ t_456, hts _ t_25⟩ ⟨roP_blind, fw_recv hK hP hhi rfl, roP_pre hK hP⟩ rfl rfl hl.1 rfl (lv_room (Nat.le_of_ble_eq_true rfl)) d_Cs_timeline_5 ⟨by decide, by decide⟩) ?_
  refine zb_if_eq (tgt := 22) hx hb d_Cs_timeline_8 (by decide) (fun c8 => ?_) (fun c8 => ?_)
  · refine lv_iconst (v := iZ (-1)) hx hb d_Cs_timeline_22 rfl ?_
    exact ro_iret hx hb hr hlocks d_Cs_timeline_23 (congrArg iZ (by rw [tmM, if_neg (of_decide_eq_false c8)]))
  · have c8b := of_decide_eq_true c8
    refine lv_aload_n hx hb d_Cs_timeline_11 rfl (lv_at hl 0 rfl) ?_
    refine fw_get (ci := 4) (v := .ref (aHi A)) (C := rCs) (T := fCs) (N := 4) hx hb hts iCs hown hK hP hc0 rfl 2 (by decide) (hts _ t_126) (fun _ h9 => h9) rfl d_Cs_timeline_12 ?_
    refine lv_iload_n hx hb d_Cs_timeline_15 rfl (lv_at hl 1 rfl) ?_
    refine fw_ro (r := .int (iZ (hOf (mHi M) (x % 64).toNat))) (va_runVN (As := [.int (iZ x)]) (rest := []) ⟨hx, hb, hml, hown, hts⟩ (c_Hi_unit l g w (aHi A) (aHa A) (hTi (mHi M)) (hId (mHi M)) (hSw (mHi M)) (hLr (mHi M)) (hLn (mHi M)) (hOf (mHi M)) x hhi hha ⟨by omega, by omega⟩) ⟨va_cnB 1 hts (gdT k_Hi_taskOfUnit) rfl rfl rfl (hK.2.1 _ n_458) (hts _ t_49) (by decide +kernel) ⟨Nat.le_of_ble_eq_true rfl, Nat.le_of_ble_eq_true rfl⟩, hts _ t_460, hts _ t_26⟩ ⟨roP_blind, fw_recv hK hP hhi rfl, roP_pre hK hP⟩ rfl rfl hl.1 rfl (lv_room (Nat.le_of_ble_eq_true rfl)) d_Cs_timeline_16 ⟨by decide, by decide⟩) ?_
    refine lv_goto (tgt := 23) hx hb d_Cs_timeline_19 (by decide) ?_
    exact ro_iret hx hb hr hlocks d_Cs_timeline_23 (congrArg iZ (by rw [tmM, if_pos (of_decide_eq_true c8)]))

set_option maxHeartbeats 4000000 in
set_option maxRecDepth 100000 in
theorem c_Cs_count (l : Launch) (g : GG) (w : fw) (a : Nat) (A : ADT) (M : CsM) (tb : Int) (x : Int) (hC : CsP g w a A M) (hI : CsI M tb) (hr_0 : ir x) : RO l y_Cs_count w_Cs_count ({ frames := 7, cells := 0, slots := 0, locals := 159 }) g w [.ref a, .int (iZ x)] (.int (iZ (cnM M x))) := by
  refine ro_go (by decide) rfl (Nat.le_of_ble_eq_true rfl) ?_
  intro p e s m below meth c hx hb hr hml hown hts hlocks hK hP ls hl
  have hown : s.vm.findClass rCs = some m.cls := hown
  have hl : lv_has ls 2 [(0, .ref a), (1, .int (iZ x))] := hl
  have hI0 := hI
  have hc0 := hC.c0
  have htl := hC.tl
  have hca := hC.ca
  have hhi := hC.hi
  have hha := hC.ha
  obtain ⟨itb, in6, iti, ilr, iln, ice, itk⟩ := hI
  obtain ⟨hr_0a, hr_0b⟩ := hr_0
  refine lv_iload_n hx hb d_Cs_count_0 rfl (lv_at hl 1 rfl) ?_
  have sw1 : x = 0 ∨ x = 1 ∨ x = 2 ∨ x = 3 ∨ x = 4 ∨ x = 5 ∨ (x < 0 ∨ 5 < x) := by omega
  rcases sw1 with s1 | s1 | s1 | s1 | s1 | s1 | s1
  · refine zz_tableIn (tgt := 40) (off := 39) hx hb d_Cs_count_1 ⟨by omega, by omega⟩ 0 (by omega) (by omega) rfl (by decide) ?_
    refine lv_aload_n hx hb d_Cs_count_40 rfl (lv_at hl 0 rfl) ?_
    refine fw_get (ci := 4) (v := .ref (aHi A)) (C := rCs) (T := fCs) (N := 4) hx hb hts iCs hown hK hP hc0 rfl 2 (by decide) (hts _ t_126) (fun _ h9 => h9) rfl d_Cs_count_41 ?_
    refine fw_getN (ci := 0) (v := .int (iZ (hTi (mHi M)))) (C := rHi) (T := fHi) (N := 6) (index := 96) (ref := "CeilingScheduler$History") (host := "CeilingScheduler") hx hb hts iHi hown hK hP hhi rfl 1 (by decide) n_102 (fun _ h9 => h9) rfl d_Cs_count_44 ?_
    exact ro_iret hx hb hr hlocks d_Cs_count_47 (congrArg iZ (by rw [s1]; rfl))
  · refine zz_tableIn (tgt := 48) (off := 47) hx hb d_Cs_count_1 ⟨by omega, by omega⟩ 1 (by omega) (by omega) rfl (by decide) ?_
    refine lv_aload_n hx hb d_Cs_count_48 rfl (lv_at hl 0 rfl) ?_
    refine fw_get (ci := 4) (v := .ref (aHi A)) (C := rCs) (T := fCs) (N := 4) hx hb hts iCs hown hK hP hc0 rfl 2 (by decide) (hts _ t_126) (fun _ h9 => h9) rfl d_Cs_count_49 ?_
    refine fw_getN (ci := 0) (v := .int (iZ (hId (mHi M)))) (C := rHi) (T := fHi) (N := 6) (index := 156) (ref := "CeilingScheduler$History") (host := "CeilingScheduler") hx hb hts iHi hown hK hP hhi rfl 2 (by decide) n_104 (fun _ h9 => h9) rfl d_Cs_count_52 ?_
    exact ro_iret hx hb hr hlocks d_Cs_count_55 (congrArg iZ (by rw [s1]; rfl))
  · refine zz_tableIn (tgt := 56) (off := 55) hx hb d_Cs_count_1 ⟨by omega, by omega⟩ 2 (by omega) (by omega) rfl (by decide) ?_
    refine lv_aload_n hx hb d_Cs_count_56 rfl (lv_at hl 0 rfl) ?_
    refine fw_get (ci := 4) (v := .ref (aHi A)) (C := rCs) (T := fCs) (N := 4) hx hb hts iCs hown hK hP hc0 rfl 2 (by decide) (hts _ t_126) (fun _ h9 => h9) rfl d_Cs_count_57 ?_
    refine fw_getN (ci := 0) (v := .int (iZ (hSw (mHi M)))) (C := rHi) (T := fHi) (N := 6) (index := 159) (ref := "CeilingScheduler$History") (host := "CeilingScheduler") hx hb hts iHi hown hK hP hhi rfl 3 (by decide) n_106 (fun _ h9 => h9) rfl d_Cs_count_60 ?_
    exact ro_iret hx hb hr hlocks d_Cs_count_63 (congrArg iZ (by rw [s1]; rfl))
  · refine zz_tableIn (tgt := 64) (off := 63) hx hb d_Cs_count_1 ⟨by omega, by omega⟩ 3 (by omega) (by omega) rfl (by decide) ?_
    refine lv_aload_n hx hb d_Cs_count_64 rfl (lv_at hl 0 rfl) ?_
    refine fw_get (ci := 4) (v := .ref (aTl A)) (C := rCs) (T := fCs) (N := 4) hx hb hts iCs hown hK hP hc0 rfl 0 (by decide) (hts _ t_124) (fun _ h9 => h9) rfl d_Cs_count_65 ?_
    refine fw_ro (r := .int (iZ ((mN M : Int)))) (va_runV (As := []) (rest := []) ⟨hx, hb, hml, hown, hts⟩ (c_AL_size l g w (aTl A) (aTe A) (aMo A) ((mN M : Int)) htl) (cwV 0 hts (gdV k_AL_size t_144 t_145 t_146 t_48) rfl rfl rfl (by decide +kernel) ⟨Nat.le_of_ble_eq_true rfl, Nat.le_of_ble_eq_true rfl⟩) ⟨roP_blind, fw_recv hK hP htl rfl, roP_pre hK hP⟩ rfl rfl hl.1 rfl (lv_room (Nat.le_of_ble_eq_true rfl)) d_Cs_count_68 ⟨by decide, by decide⟩) ?_
    exact ro_iret hx hb hr hlocks d_Cs_count_71 (congrArg iZ (by rw [s1]; rfl))
  · refine zz_tableIn (tgt := 72) (off := 71) hx hb d_Cs_count_1 ⟨by omega, by omega⟩ 4 (by omega) (by omega) rfl (by decide) ?_
    refine lv_aload_n hx hb d_Cs_count_72 rfl (lv_at hl 0 rfl) ?_
    refine fw_ro (r := .int (iZ (jnM M))) (va_runV (As := []) (rest := []) ⟨hx, hb, hml, hown, hts⟩ (c_Cs_notDone l g w a A M tb hC hI0) (cwV 0 hts (gdV k_Cs_jobsNotDone t_466 t_468 t_27 t_45) rfl rfl rfl (by decide +kernel) ⟨Nat.le_of_ble_eq_true rfl, Nat.le_of_ble_eq_true rfl⟩) ⟨roP_blind, fw_recv hK hP hc0 rfl, roP_pre hK hP⟩ rfl rfl hl.1 rfl (lv_room (Nat.le_of_ble_eq_true rfl)) d_Cs_count_73 ⟨by decide, by decide⟩) ?_
    exact ro_iret hx hb hr hlocks d_Cs_count_76 (congrArg iZ (by rw [s1]; rfl))
  · refine zz_tableIn (tgt := 77) (off := 76) hx hb d_Cs_count_1 ⟨by omega, by omega⟩ 5 (by omega) (by omega) rfl (by decide) ?_
    refine lv_aload_n hx hb d_Cs_count_77 rfl (lv_at hl 0 rfl) ?_
    refine fw_ro (r := .int (bZ (abM M))) (va_runV (As := []) (rest := []) ⟨hx, hb, hml, hown, hts⟩ (c_Cs_allB l g w a A M tb hC hI0) (cwV 0 hts (gdV k_Cs_allBoundsMeetDeadlines t_470 t_472 t_28 t_45) rfl rfl rfl (by decide +kernel) ⟨Nat.le_of_ble_eq_true rfl, Nat.le_of_ble_eq_true rfl⟩) ⟨roP_blind, fw_recv hK hP hc0 rfl, roP_pre hK hP⟩ rfl rfl hl.1 rfl (lv_room (Nat.le_of_ble_eq_true rfl)) d_Cs_count_78 ⟨by decide, by decide⟩) ?_
    refine zb_if_eq (tgt := 88) hx hb d_Cs_count_81 (by decide) (fun c81 => ?_) (fun c81 => ?_)
    · refine lv_iconst (v := iZ 0) hx hb d_Cs_count_88 rfl ?_
      exact ro_iret hx hb hr hlocks d_Cs_count_89 (congrArg iZ (by rw [s1]; show 0 = if abM M = true then (1 : Int) else 0; rw [c81]; rfl))
    · refine lv_iconst (v := iZ 1) hx hb d_Cs_count_84 rfl ?_
      refine lv_goto (tgt := 89) hx hb d_Cs_count_85 (by decide) ?_
      exact ro_iret hx hb hr hlocks d_Cs_count_89 (congrArg iZ (by rw [s1]; show 1 = if abM M = true then (1 : Int) else 0; rw [if_pos c81]))
  · refine zz_tableOut (tgt := 90) hx hb d_Cs_count_1 ⟨by omega, by omega⟩ s1 (by decide) ?_
    refine lv_iconst (v := iZ (-1)) hx hb d_Cs_count_90 rfl ?_
    exact ro_iret hx hb hr hlocks d_Cs_count_91 (congrArg iZ (by rw [cnM_out (by omega)]))

set_option maxHeartbeats 4000000 in
set_option maxRecDepth 100000 in
theorem c_Cs_blocking (l : Launch) (g : GG) (w : fw) (a : Nat) (A : ADT) (M : CsM) (tb : Int) (v : Int) (hC : CsP g w a A M) (hI : CsI M tb) (hr_0 : ir v) : RO l y_Cs_blocking w_Cs_blocking ({ frames := 5, cells := 0, slots := 0, locals := 113 }) g w [.ref a, .int (iZ v)] (.int (iZ (blM M v))) := by
  refine ro_go (by decide) rfl (Nat.le_of_ble_eq_true rfl) ?_
  intro p e s m below meth c hx hb hr hml hown hts hlocks hK hP ls hl
  have hown : s.vm.findClass rCs = some m.cls := hown
  have hl : lv_has ls 2 [(0, .ref a), (1, .int (iZ v))] := hl
  have hI0 := hI
  have hc0 := hC.c0
  have htl := hC.tl
  have hca := hC.ca
  have hhi := hC.hi
  have hha := hC.ha
  obtain ⟨itb, in6, iti, ilr, iln, ice, itk⟩ := hI
  obtain ⟨hr_0a, hr_0b⟩ := hr_0
  refine lv_aload_n hx hb d_Cs_blocking_0 rfl (lv_at hl 0 rfl) ?_
  refine lv_iload_n hx hb d_Cs_blocking_1 rfl (lv_at hl 1 rfl) ?_
  refine fw_ro (r := .int (bZ (decide (v < 0 ∨ (mN M : Int) - 1 < v)))) (va_runV (As := [.int (iZ v)]) (rest := []) ⟨hx, hb, hml, hown, hts⟩ (c_Cs_noTask l g w a A M tb v hC hI0 ⟨by omega, by omega⟩) (cwV 1 hts (gdV k_Cs_isNoTask t_315 t_317 t_5 t_45) rfl rfl rfl (by decide +kernel) ⟨Nat.le_of_ble_eq_true rfl, Nat.le_of_ble_eq_true rfl⟩) ⟨roP_blind, fw_recv hK hP hc0 rfl, roP_pre hK hP⟩ rfl rfl hl.1 rfl (lv_room (Nat.le_of_ble_eq_true rfl)) d_Cs_blocking_2 ⟨by decide, by decide⟩) ?_
  refine zb_if_eq (tgt := 12) hx hb d_Cs_blocking_5 (by decide) (fun c5 => ?_) (fun c5 => ?_)
  · have nc5 := of_decide_eq_false c5
    obtain ⟨t, et⟩ := Int.eq_ofNat_of_zero_le (show 0 ≤ v by omega)
    subst et
    have htn : t < mN M := by omega
    refine lv_aload_n hx hb d_Cs_blocking_12 rfl (lv_at hl 0 rfl) ?_
    refine lv_aload_n hx hb d_Cs_blocking_13 rfl (lv_at hl 0 rfl) ?_
    refine fw_get (ci := 4) (v := .ref (aTl A)) (C := rCs) (T := fCs) (N := 4) hx hb hts iCs hown hK hP hc0 rfl 0 (by decide) (hts _ t_124) (fun _ h9 => h9) rfl d_Cs_blocking_14 ?_
    refine lv_iload_n hx hb d_Cs_blocking_17 rfl (lv_at hl 1 rfl) ?_
    refine fw_ro (r := .ref (aTk A t)) (va_runV (As := [.int (iZ ((t : Int)))]) (rest := [.ref a]) ⟨hx, hb, hml, hown, hts⟩ (c_AL_get l g w (aTl A) (aTe A) (aMo A) (mN M) (aQf A) t (aTk A t) htl (hC.te (by omega)) (by omega) (by omega) (hC.qf t (by omega))) (cwV 1 hts (gdV k_AL_get t_289 t_290 t_291 t_48) rfl rfl rfl (by decide +kernel) ⟨Nat.le_of_ble_eq_true rfl, Nat.le_of_ble_eq_true rfl⟩) ⟨roP_blind, fw_recv hK hP htl rfl, roP_pre hK hP⟩ rfl rfl hl.1 rfl (lv_room (Nat.le_of_ble_eq_true rfl)) d_Cs_blocking_18 ⟨by decide, by decide⟩) ?_
    obtain ⟨ktt, kslt, ks0t, kset, kqft, ksat, kjqt, krat⟩ := hC.tk t (by omega)
    obtain ⟨rpert, rcstt, rddlt, rprit, rnst, rSt, rnxt, rfrt, rndt, ruft, rrlt, rlrt, rgrt, rret, rlxt⟩ := itk t (by omega)
    refine fw_cast (T := fTa) (N := 8) hx hb hown (hts _ t_148) hK hP ktt rfl d_Cs_blocking_21 ?_
    refine fw_ro (r := .int (iZ (bkM M t))) (va_runV (As := [.ref (aTk A t)]) (rest := []) ⟨hx, hb, hml, hown, hts⟩ (c_Cs_blockOf l g w a A M tb t hC hI0 (by omega)) (cwV 1 hts (gdV k_Cs_blockingOf t_478 t_480 t_30 t_45) rfl rfl rfl (by decide +kernel) ⟨Nat.le_of_ble_eq_true rfl, Nat.le_of_ble_eq_true rfl⟩) ⟨roP_blind, fw_recv hK hP hc0 rfl, roP_pre hK hP⟩ rfl rfl hl.1 rfl (lv_room (Nat.le_of_ble_eq_true rfl)) d_Cs_blocking_24 ⟨by decide, by decide⟩) ?_
    exact ro_iret hx hb hr hlocks d_Cs_blocking_27 (congrArg iZ (by rw [blM, if_neg (by omega)]; rfl))
  · refine lv_iconst (v := iZ (-1)) hx hb d_Cs_blocking_8 rfl ?_
    refine lv_goto (tgt := 27) hx hb d_Cs_blocking_9 (by decide) ?_
    exact ro_iret hx hb hr hlocks d_Cs_blocking_27 (congrArg iZ (by rw [blM, if_pos (of_decide_eq_true c5)]))

set_option maxHeartbeats 4000000 in
set_option maxRecDepth 100000 in
theorem c_Cs_bound (l : Launch) (g : GG) (w : fw) (a : Nat) (A : ADT) (M : CsM) (tb : Int) (v : Int) (hC : CsP g w a A M) (hI : CsI M tb) (hr_0 : ir v) : RO l y_Cs_bound w_Cs_bound ({ frames := 6, cells := 0, slots := 0, locals := 137 }) g w [.ref a, .int (iZ v)] (.int (iZ (bdM M v))) := by
  refine ro_go (by decide) rfl (Nat.le_of_ble_eq_true rfl) ?_
  intro p e s m below meth c hx hb hr hml hown hts hlocks hK hP ls hl
  have hown : s.vm.findClass rCs = some m.cls := hown
  have hl : lv_has ls 2 [(0, .ref a), (1, .int (iZ v))] := hl
  have hI0 := hI
  have hc0 := hC.c0
  have htl := hC.tl
  have hca := hC.ca
  have hhi := hC.hi
  have hha := hC.ha
  obtain ⟨itb, in6, iti, ilr, iln, ice, itk⟩ := hI
  obtain ⟨hr_0a, hr_0b⟩ := hr_0
  refine lv_aload_n hx hb d_Cs_bound_0 rfl (lv_at hl 0 rfl) ?_
  refine lv_iload_n hx hb d_Cs_bound_1 rfl (lv_at hl 1 rfl) ?_
  refine fw_ro (r := .int (bZ (decide (v < 0 ∨ (mN M : Int) - 1 < v)))) (va_runV (As := [.int (iZ v)]) (rest := []) ⟨hx, hb, hml, hown, hts⟩ (c_Cs_noTask l g w a A M tb v hC hI0 ⟨by omega, by omega⟩) (cwV 1 hts (gdV k_Cs_isNoTask t_315 t_317 t_5 t_45) rfl rfl rfl (by decide +kernel) ⟨Nat.le_of_ble_eq_true rfl, Nat.le_of_ble_eq_true rfl⟩) ⟨roP_blind, fw_recv hK hP hc0 rfl, roP_pre hK hP⟩ rfl rfl hl.1 rfl (lv_room (Nat.le_of_ble_eq_true rfl)) d_Cs_bound_2 ⟨by decide, by decide⟩) ?_
  refine zb_if_eq (tgt := 12) hx hb d_Cs_bound_5 (by decide) (fun c5 => ?_) (fun c5 => ?_)
  · have nc5 := of_decide_eq_false c5
    obtain ⟨t, et⟩ := Int.eq_ofNat_of_zero_le (show 0 ≤ v by omega)
    subst et
    have htn : t < mN M := by omega
    refine lv_aload_n hx hb d_Cs_bound_12 rfl (lv_at hl 0 rfl) ?_
    refine lv_iload_n hx hb d_Cs_bound_13 rfl (lv_at hl 1 rfl) ?_
    refine fw_ro (r := .int (iZ (boM M t))) (va_runV (As := [.int (iZ ((t : Int)))]) (rest := []) ⟨hx, hb, hml, hown, hts⟩ (c_Cs_boundOf l g w a A M tb t hC hI0 (by omega)) (cwV 1 hts (gdV k_Cs_boundOf t_474 t_476 t_29 t_45) rfl rfl rfl (by decide +kernel) ⟨Nat.le_of_ble_eq_true rfl, Nat.le_of_ble_eq_true rfl⟩) ⟨roP_blind, fw_recv hK hP hc0 rfl, roP_pre hK hP⟩ rfl rfl hl.1 rfl (lv_room (Nat.le_of_ble_eq_true rfl)) d_Cs_bound_14 ⟨by decide, by decide⟩) ?_
    exact ro_iret hx hb hr hlocks d_Cs_bound_17 (congrArg iZ (by rw [bdM, if_neg (by omega)]; rfl))
  · refine lv_iconst (v := iZ (-1)) hx hb d_Cs_bound_8 rfl ?_
    refine lv_goto (tgt := 17) hx hb d_Cs_bound_9 (by decide) ?_
    exact ro_iret hx hb hr hlocks d_Cs_bound_17 (congrArg iZ (by rw [bdM, if_pos (of_decide_eq_true c5)]))
