set_option maxHeartbeats 4000000 in
set_option maxRecDepth 100000 in
theorem c_Mo_out (l : Launch) (g : GG) (w : fw) (b : Nat) (ad : Nat → Nat) (N : MoM) (tb : Int) (v x y : Int) (hM : MoP g w b ad N) (hr_0 : ir v) (hr_1 : ir x) (hr_2 : ir y) : RO l y_Mo_out w_Mo_out ({ frames := 0, cells := 0, slots := 0, locals := 0 }) g w [.ref b, .int (iZ v), .int (iZ x), .int (iZ y)] (.int (bZ (decide (v < x ∨ y < v)))) := by
  refine ro_go (by decide) rfl (Nat.le_of_ble_eq_true rfl) ?_
  intro p e s m below meth c hx hb hr hml hown hts hlocks hK hP ls hl
  have hown : s.vm.findClass rMo = some m.cls := hown
  have hl : lv_has ls 4 [(0, .ref b), (1, .int (iZ v)), (2, .int (iZ x)), (3, .int (iZ y))] := hl
  obtain ⟨hr_0a, hr_0b⟩ := hr_0
  obtain ⟨hr_1a, hr_1b⟩ := hr_1
  obtain ⟨hr_2a, hr_2b⟩ := hr_2
  refine lv_iload_n hx hb d_Mo_out_0 rfl (lv_at hl 1 rfl) ?_
  refine lv_iload_n hx hb d_Mo_out_1 rfl (lv_at hl 2 rfl) ?_
  refine zz_icmp_lt (tgt := 10) hx hb d_Mo_out_2 (by decide) ⟨by omega, by omega⟩ ⟨by omega, by omega⟩ (fun c2 => ?_) (fun c2 => ?_)
  · refine lv_iconst (v := iZ 1) hx hb d_Mo_out_10 rfl ?_
    refine lv_goto (tgt := 15) hx hb d_Mo_out_11 (by decide) ?_
    exact ro_zret hx hb hr hlocks d_Mo_out_15 (bz1 (decide_eq_true (by omega)))
  · refine lv_iload_n hx hb d_Mo_out_5 rfl (lv_at hl 1 rfl) ?_
    refine lv_iload_n hx hb d_Mo_out_6 rfl (lv_at hl 3 rfl) ?_
    refine zz_icmp_le (tgt := 14) hx hb d_Mo_out_7 (by decide) ⟨by omega, by omega⟩ ⟨by omega, by omega⟩ (fun c7 => ?_) (fun c7 => ?_)
    · refine lv_iconst (v := iZ 0) hx hb d_Mo_out_14 rfl ?_
      exact ro_zret hx hb hr hlocks d_Mo_out_15 (bz0 (decide_eq_false (by omega)))
    · refine lv_iconst (v := iZ 1) hx hb d_Mo_out_10 rfl ?_
      refine lv_goto (tgt := 15) hx hb d_Mo_out_11 (by decide) ?_
      exact ro_zret hx hb hr hlocks d_Mo_out_15 (bz1 (decide_eq_true (by omega)))

set_option maxHeartbeats 4000000 in
set_option maxRecDepth 100000 in
theorem c_Mo_no (l : Launch) (g : GG) (w : fw) (b : Nat) (ad : Nat → Nat) (N : MoM) (tb : Int) (v : Int) (hM : MoP g w b ad N) (hI : MoI N tb) (hr_0 : ir v) : RO l y_Mo_no w_Mo_no ({ frames := 0, cells := 0, slots := 0, locals := 0 }) g w [.ref b, .int (iZ v)] (.int (bZ (decide (v < 0 ∨ (nTa N : Int) ≤ v)))) := by
  refine ro_go (by decide) rfl (Nat.le_of_ble_eq_true rfl) ?_
  intro p e s m below meth c hx hb hr hml hown hts hlocks hK hP ls hl
  have hown : s.vm.findClass rMo = some m.cls := hown
  have hl : lv_has ls 2 [(0, .ref b), (1, .int (iZ v))] := hl
  have hI0 := hI
  have hM0 := hM
  obtain ⟨hmo, qa0, qa1, qa2, qa3, qa4, qa5, qa6, qa7, qa8, qa9, qa10, qa11, qa12, qa13, qa14, qa15, qa16, qa17, qa18, hinj⟩ := hM
  obtain ⟨itb, in6, iti, ila, ibu, ice, ion, ifr, ilo, ire, itk⟩ := hI
  obtain ⟨hr_0a, hr_0b⟩ := hr_0
  refine lv_iload_n hx hb d_Mo_no_0 rfl (lv_at hl 1 rfl) ?_
  refine zz_if_lt (tgt := 12) hx hb d_Mo_no_1 (by decide) ⟨by omega, by omega⟩ (fun c1 => ?_) (fun c1 => ?_)
  · refine lv_iconst (v := iZ 1) hx hb d_Mo_no_12 rfl ?_
    refine lv_goto (tgt := 17) hx hb d_Mo_no_13 (by decide) ?_
    exact ro_zret hx hb hr hlocks d_Mo_no_17 (bz1 (decide_eq_true (by omega)))
  · refine lv_iload_n hx hb d_Mo_no_4 rfl (lv_at hl 1 rfl) ?_
    refine lv_aload_n hx hb d_Mo_no_5 rfl (lv_at hl 0 rfl) ?_
    refine fw_get (ci := 5) (v := .int (iZ ((nTa N : Int)))) (C := rMo) (T := fMo) (N := 26) hx hb hts iMo hown hK hP hmo rfl 0 (by decide) (hts _ t_508) (fun _ h9 => h9) rfl d_Mo_no_6 ?_
    refine zz_icmp_lt (tgt := 16) hx hb d_Mo_no_9 (by decide) ⟨by omega, by omega⟩ ⟨by omega, by omega⟩ (fun c9 => ?_) (fun c9 => ?_)
    · refine lv_iconst (v := iZ 0) hx hb d_Mo_no_16 rfl ?_
      exact ro_zret hx hb hr hlocks d_Mo_no_17 (bz0 (decide_eq_false (by omega)))
    · refine lv_iconst (v := iZ 1) hx hb d_Mo_no_12 rfl ?_
      refine lv_goto (tgt := 17) hx hb d_Mo_no_13 (by decide) ?_
      exact ro_zret hx hb hr hlocks d_Mo_no_17 (bz1 (decide_eq_true (by omega)))

set_option maxHeartbeats 4000000 in
set_option maxRecDepth 100000 in
theorem c_Mo_secAt (l : Launch) (g : GG) (w : fw) (b : Nat) (ad : Nat → Nat) (N : MoM) (tb : Int) (t : Nat) (u : Int) (hM : MoP g w b ad N) (hI : MoI N tb) (ht : t < nTa N) (hr_0 : ir u) : RO l y_Mo_sectionAt w_Mo_sectionAt ({ frames := 0, cells := 0, slots := 0, locals := 0 }) g w [.ref b, .int (iZ ((t : Int))), .int (iZ u)] (.int (iZ (saM N t u))) := by
  refine ro_go (by decide) rfl (Nat.le_of_ble_eq_true rfl) ?_
  intro p e s m below meth c hx hb hr hml hown hts hlocks hK hP ls hl
  have hown : s.vm.findClass rMo = some m.cls := hown
  have hl : lv_has ls 4 [(0, .ref b), (1, .int (iZ ((t : Int)))), (2, .int (iZ u))] := hl
  have hI0 := hI
  have hM0 := hM
  obtain ⟨hmo, qa0, qa1, qa2, qa3, qa4, qa5, qa6, qa7, qa8, qa9, qa10, qa11, qa12, qa13, qa14, qa15, qa16, qa17, qa18, hinj⟩ := hM
  obtain ⟨itb, in6, iti, ila, ibu, ice, ion, ifr, ilo, ire, itk⟩ := hI
  obtain ⟨hr_0a, hr_0b⟩ := hr_0
  obtain ⟨r0t, r1t, r2t, r3t, r4t, r6t, r10t, r12t, r16t⟩ := itk t ht
  refine lv_iload_n hx hb d_Mo_sectionAt_0 rfl (lv_at hl 1 rfl) ?_
  refine lv_iconst (v := iZ 3) hx hb d_Mo_sectionAt_1 rfl ?_
  refine zz_imul hx hb d_Mo_sectionAt_2 ?_
  refine lv_istore_n (lv' := [(3, .int (iZ (((t : Int)) * 3))), (0, .ref b), (1, .int (iZ ((t : Int)))), (2, .int (iZ u))]) hx hb d_Mo_sectionAt_3 rfl hl (by decide) rfl (fun ls hl => ?_)
  have lp : ∀ (f k : Nat), k + f = t * 3 + (nA N 6 t).toNat → (saM N t u = saF N u f k) → (t * 3 ≤ k) → ∀ ls : Array Slot, lv_has ls 4 [(3, .int (iZ ((k : Int)))), (0, .ref b), (1, .int (iZ ((t : Int)))), (2, .int (iZ u))] → W p l e ({ frames := 0, cells := 0, slots := 0, locals := 0 }) s m ([.ref b, .int (iZ ((t : Int))), .int (iZ u)] : List Value).toArray below meth c s.heap [] 0 0 (MQ below (k2_QcV (.int (iZ (saM N t u)))) ([.ref b, .int (iZ ((t : Int))), .int (iZ u)] : List Value).toArray s 0 0 (fun _ => False)) (F0 m 4 ls []) := by
    intro f
    induction f with
    | zero =>
      intro k hif hv hk ls hl
      refine lv_iload_n hx hb d_Mo_sectionAt_4 rfl (lv_at hl 0 rfl) ?_
      refine lv_iload_n hx hb d_Mo_sectionAt_5 rfl (lv_at hl 2 rfl) ?_
      refine lv_iconst (v := iZ 3) hx hb d_Mo_sectionAt_6 rfl ?_
      refine zz_imul hx hb d_Mo_sectionAt_7 ?_
      refine lv_aload_n hx hb d_Mo_sectionAt_8 rfl (lv_at hl 1 rfl) ?_
      refine fw_get (ci := 5) (v := .ref (ad 6)) (C := rMo) (T := fMo) (N := 26) hx hb hts iMo hown hK hP hmo rfl 13 (by decide) (hts _ t_521) (fun _ h9 => h9) rfl d_Mo_sectionAt_9 ?_
      refine lv_iload_n hx hb d_Mo_sectionAt_12 rfl (lv_at hl 2 rfl) ?_
      refine fw_iald hx hb hK hP qa6 (by decide) t rfl (by omega) d_Mo_sectionAt_13 ?_
      refine zz_iadd hx hb d_Mo_sectionAt_14 ?_
      refine zz_icmp_ge (tgt := 53) hx hb d_Mo_sectionAt_15 (by decide) ⟨by omega, by omega⟩ ⟨by omega, by omega⟩ (fun c15 => ?_) (fun c15 => ?_)
      · refine lv_iconst (v := iZ (-1)) hx hb d_Mo_sectionAt_53 rfl ?_
        exact ro_iret hx hb hr hlocks d_Mo_sectionAt_54 (congrArg iZ (by rw [hv]; rfl))
      · exfalso; omega
    | succ f ih =>
      intro k hif hv hk ls hl
      refine lv_iload_n hx hb d_Mo_sectionAt_4 rfl (lv_at hl 0 rfl) ?_
      refine lv_iload_n hx hb d_Mo_sectionAt_5 rfl (lv_at hl 2 rfl) ?_
      refine lv_iconst (v := iZ 3) hx hb d_Mo_sectionAt_6 rfl ?_
      refine zz_imul hx hb d_Mo_sectionAt_7 ?_
      refine lv_aload_n hx hb d_Mo_sectionAt_8 rfl (lv_at hl 1 rfl) ?_
      refine fw_get (ci := 5) (v := .ref (ad 6)) (C := rMo) (T := fMo) (N := 26) hx hb hts iMo hown hK hP hmo rfl 13 (by decide) (hts _ t_521) (fun _ h9 => h9) rfl d_Mo_sectionAt_9 ?_
      refine lv_iload_n hx hb d_Mo_sectionAt_12 rfl (lv_at hl 2 rfl) ?_
      refine fw_iald hx hb hK hP qa6 (by decide) t rfl (by omega) d_Mo_sectionAt_13 ?_
      refine zz_iadd hx hb d_Mo_sectionAt_14 ?_
      refine zz_icmp_ge (tgt := 53) hx hb d_Mo_sectionAt_15 (by decide) ⟨by omega, by omega⟩ ⟨by omega, by omega⟩ (fun c15 => ?_) (fun c15 => ?_)
      · exfalso; omega
      · have hf8 := ifr k
        have hf9 := ilo k
        refine lv_iload_n hx hb d_Mo_sectionAt_18 rfl (lv_at hl 3 rfl) ?_
        refine lv_aload_n hx hb d_Mo_sectionAt_19 rfl (lv_at hl 1 rfl) ?_
        refine fw_get (ci := 5) (v := .ref (ad 8)) (C := rMo) (T := fMo) (N := 26) hx hb hts iMo hown hK hP hmo rfl 15 (by decide) (hts _ t_523) (fun _ h9 => h9) rfl d_Mo_sectionAt_20 ?_
        refine lv_iload_n hx hb d_Mo_sectionAt_23 rfl (lv_at hl 0 rfl) ?_
        refine fw_iald hx hb hK hP qa8 (by decide) k rfl (by omega) d_Mo_sectionAt_24 ?_
        refine zz_icmp_lt (tgt := 47) hx hb d_Mo_sectionAt_25 (by decide) ⟨by omega, by omega⟩ ⟨by omega, by omega⟩ (fun c25 => ?_) (fun c25 => ?_)
        · refine lv_iinc (v := iZ (((k : Int)) + 1)) (lv' := [(3, .int (iZ (((k : Int)) + 1))), (0, .ref b), (1, .int (iZ ((t : Int)))), (2, .int (iZ u))]) hx hb d_Mo_sectionAt_47 hl (k := 0) rfl (iZ_add _ _) (by decide) rfl (fun ls hl => ?_)
          refine lv_goto (tgt := 4) hx hb d_Mo_sectionAt_50 (by decide) ?_
          exact ih (k + 1) (by omega) (by rw [hv, saF, if_neg (by omega)]) (by omega) ls (lv_sub hl [0, 1, 2, 3] rfl)
        · refine lv_iload_n hx hb d_Mo_sectionAt_28 rfl (lv_at hl 3 rfl) ?_
          refine lv_aload_n hx hb d_Mo_sectionAt_29 rfl (lv_at hl 1 rfl) ?_
          refine fw_get (ci := 5) (v := .ref (ad 8)) (C := rMo) (T := fMo) (N := 26) hx hb hts iMo hown hK hP hmo rfl 15 (by decide) (hts _ t_523) (fun _ h9 => h9) rfl d_Mo_sectionAt_30 ?_
          refine lv_iload_n hx hb d_Mo_sectionAt_33 rfl (lv_at hl 0 rfl) ?_
          refine fw_iald hx hb hK hP qa8 (by decide) k rfl (by omega) d_Mo_sectionAt_34 ?_
          refine lv_aload_n hx hb d_Mo_sectionAt_35 rfl (lv_at hl 1 rfl) ?_
          refine fw_get (ci := 5) (v := .ref (ad 9)) (C := rMo) (T := fMo) (N := 26) hx hb hts iMo hown hK hP hmo rfl 16 (by decide) (hts _ t_524) (fun _ h9 => h9) rfl d_Mo_sectionAt_36 ?_
          refine lv_iload_n hx hb d_Mo_sectionAt_39 rfl (lv_at hl 0 rfl) ?_
          refine fw_iald hx hb hK hP qa9 (by decide) k rfl (by omega) d_Mo_sectionAt_40 ?_
          refine zz_iadd hx hb d_Mo_sectionAt_41 ?_
          refine zz_icmp_ge (tgt := 47) hx hb d_Mo_sectionAt_42 (by decide) ⟨by omega, by omega⟩ ⟨by omega, by omega⟩ (fun c42 => ?_) (fun c42 => ?_)
          · refine lv_iinc (v := iZ (((k : Int)) + 1)) (lv' := [(3, .int (iZ (((k : Int)) + 1))), (0, .ref b), (1, .int (iZ ((t : Int)))), (2, .int (iZ u))]) hx hb d_Mo_sectionAt_47 hl (k := 0) rfl (iZ_add _ _) (by decide) rfl (fun ls hl => ?_)
            refine lv_goto (tgt := 4) hx hb d_Mo_sectionAt_50 (by decide) ?_
            exact ih (k + 1) (by omega) (by rw [hv, saF, if_neg (by omega)]) (by omega) ls (lv_sub hl [0, 1, 2, 3] rfl)
          · refine lv_iload_n hx hb d_Mo_sectionAt_45 rfl (lv_at hl 0 rfl) ?_
            exact ro_iret hx hb hr hlocks d_Mo_sectionAt_46 (congrArg iZ (by rw [hv, saF, if_pos ⟨by omega, by omega⟩]))
  exact lp _ (t * 3) (by omega) rfl (Nat.le_refl _) ls (lv_sub hl [0, 1, 2, 3] rfl)

set_option maxHeartbeats 4000000 in
set_option maxRecDepth 100000 in
theorem c_Mo_comes (l : Launch) (g : GG) (w : fw) (b : Nat) (ad : Nat → Nat) (N : MoM) (tb : Int) (t : Nat) (hM : MoP g w b ad N) (hI : MoI N tb) (ht : t < nTa N) : RO l y_Mo_comes w_Mo_comes ({ frames := 0, cells := 0, slots := 0, locals := 0 }) g w [.ref b, .int (iZ ((t : Int)))] (.int (bZ (coM N t))) := by
  refine ro_go (by decide) rfl (Nat.le_of_ble_eq_true rfl) ?_
  intro p e s m below meth c hx hb hr hml hown hts hlocks hK hP ls hl
  have hown : s.vm.findClass rMo = some m.cls := hown
  have hl : lv_has ls 2 [(0, .ref b), (1, .int (iZ ((t : Int))))] := hl
  have hI0 := hI
  have hM0 := hM
  obtain ⟨hmo, qa0, qa1, qa2, qa3, qa4, qa5, qa6, qa7, qa8, qa9, qa10, qa11, qa12, qa13, qa14, qa15, qa16, qa17, qa18, hinj⟩ := hM
  obtain ⟨itb, in6, iti, ila, ibu, ice, ion, ifr, ilo, ire, itk⟩ := hI
  obtain ⟨r0t, r1t, r2t, r3t, r4t, r6t, r10t, r12t, r16t⟩ := itk t ht
  refine lv_aload_n hx hb d_Mo_comes_0 rfl (lv_at hl 0 rfl) ?_
  refine fw_get (ci := 5) (v := .ref (ad 4)) (C := rMo) (T := fMo) (N := 26) hx hb hts iMo hown hK hP hmo rfl 11 (by decide) (hts _ t_519) (fun _ h9 => h9) rfl d_Mo_comes_1 ?_
  refine lv_iload_n hx hb d_Mo_comes_4 rfl (lv_at hl 1 rfl) ?_
  refine fw_iald hx hb hK hP qa4 (by decide) t rfl (by omega) d_Mo_comes_5 ?_
  refine zz_if_lt (tgt := 47) hx hb d_Mo_comes_6 (by decide) ⟨by omega, by omega⟩ (fun c6 => ?_) (fun c6 => ?_)
  · refine lv_iconst (v := iZ 0) hx hb d_Mo_comes_47 rfl ?_
    exact ro_zret hx hb hr hlocks d_Mo_comes_48 (bz0 (decide_eq_false (fun q => by omega)))
  · refine lv_aload_n hx hb d_Mo_comes_9 rfl (lv_at hl 0 rfl) ?_
    refine fw_get (ci := 5) (v := .int (iZ (nTi N))) (C := rMo) (T := fMo) (N := 26) hx hb hts iMo hown hK hP hmo rfl 1 (by decide) (hts _ t_509) (fun _ h9 => h9) rfl d_Mo_comes_10 ?_
    refine lv_aload_n hx hb d_Mo_comes_13 rfl (lv_at hl 0 rfl) ?_
    refine fw_get (ci := 5) (v := .ref (ad 4)) (C := rMo) (T := fMo) (N := 26) hx hb hts iMo hown hK hP hmo rfl 11 (by decide) (hts _ t_519) (fun _ h9 => h9) rfl d_Mo_comes_14 ?_
    refine lv_iload_n hx hb d_Mo_comes_17 rfl (lv_at hl 1 rfl) ?_
    refine fw_iald hx hb hK hP qa4 (by decide) t rfl (by omega) d_Mo_comes_18 ?_
    refine zz_icmp_lt (tgt := 47) hx hb d_Mo_comes_19 (by decide) ⟨by omega, by omega⟩ ⟨by omega, by omega⟩ (fun c19 => ?_) (fun c19 => ?_)
    · refine lv_iconst (v := iZ 0) hx hb d_Mo_comes_47 rfl ?_
      exact ro_zret hx hb hr hlocks d_Mo_comes_48 (bz0 (decide_eq_false (fun q => by omega)))
    · refine lv_aload_n hx hb d_Mo_comes_22 rfl (lv_at hl 0 rfl) ?_
      refine fw_get (ci := 5) (v := .int (iZ (nTi N))) (C := rMo) (T := fMo) (N := 26) hx hb hts iMo hown hK hP hmo rfl 1 (by decide) (hts _ t_509) (fun _ h9 => h9) rfl d_Mo_comes_23 ?_
      refine lv_aload_n hx hb d_Mo_comes_26 rfl (lv_at hl 0 rfl) ?_
      refine fw_get (ci := 5) (v := .ref (ad 4)) (C := rMo) (T := fMo) (N := 26) hx hb hts iMo hown hK hP hmo rfl 11 (by decide) (hts _ t_519) (fun _ h9 => h9) rfl d_Mo_comes_27 ?_
      refine lv_iload_n hx hb d_Mo_comes_30 rfl (lv_at hl 1 rfl) ?_
      refine fw_iald hx hb hK hP qa4 (by decide) t rfl (by omega) d_Mo_comes_31 ?_
      refine zz_isub hx hb d_Mo_comes_32 ?_
      refine lv_aload_n hx hb d_Mo_comes_33 rfl (lv_at hl 0 rfl) ?_
      refine fw_get (ci := 5) (v := .ref (ad 0)) (C := rMo) (T := fMo) (N := 26) hx hb hts iMo hown hK hP hmo rfl 7 (by decide) (hts _ t_515) (fun _ h9 => h9) rfl d_Mo_comes_34 ?_
      refine lv_iload_n hx hb d_Mo_comes_37 rfl (lv_at hl 1 rfl) ?_
      refine fw_iald hx hb hK hP qa0 (by decide) t rfl (by omega) d_Mo_comes_38 ?_
      refine zz_irem hx hb d_Mo_comes_39 (by omega) (by omega) (by omega) (by omega) ?_
      have hmd : 0 ≤ (nTi N - nA N 4 t) % nA N 0 t ∧ (nTi N - nA N 4 t) % nA N 0 t < nA N 0 t := ⟨Int.emod_nonneg _ (by omega), Int.emod_lt_of_pos _ (by omega)⟩
      refine zz_if_ne (tgt := 47) hx hb d_Mo_comes_40 (by decide) ⟨by omega, by omega⟩ (fun c40 => ?_) (fun c40 => ?_)
      · refine lv_iconst (v := iZ 0) hx hb d_Mo_comes_47 rfl ?_
        exact ro_zret hx hb hr hlocks d_Mo_comes_48 (bz0 (decide_eq_false (fun q => c40 q.2.2)))
      · refine lv_iconst (v := iZ 1) hx hb d_Mo_comes_43 rfl ?_
        refine lv_goto (tgt := 48) hx hb d_Mo_comes_44 (by decide) ?_
        exact ro_zret hx hb hr hlocks d_Mo_comes_48 (bz1 (decide_eq_true ⟨by omega, by omega, c40⟩))

set_option maxHeartbeats 4000000 in
set_option maxRecDepth 100000 in
theorem c_Mo_held (l : Launch) (g : GG) (w : fw) (b : Nat) (ad : Nat → Nat) (N : MoM) (tb : Int) (t : Nat) (hM : MoP g w b ad N) (hI : MoI N tb) (ht : t < nTa N) : RO l y_Mo_held w_Mo_held ({ frames := 1, cells := 0, slots := 0, locals := 23 }) g w [.ref b, .int (iZ ((t : Int)))] (.int (iZ (heM N t))) := by
  refine ro_go (by decide) rfl (Nat.le_of_ble_eq_true rfl) ?_
  intro p e s m below meth c hx hb hr hml hown hts hlocks hK hP ls hl
  have hown : s.vm.findClass rMo = some m.cls := hown
  have hl : lv_has ls 3 [(0, .ref b), (1, .int (iZ ((t : Int))))] := hl
  have hI0 := hI
  have hM0 := hM
  obtain ⟨hmo, qa0, qa1, qa2, qa3, qa4, qa5, qa6, qa7, qa8, qa9, qa10, qa11, qa12, qa13, qa14, qa15, qa16, qa17, qa18, hinj⟩ := hM
  obtain ⟨itb, in6, iti, ila, ibu, ice, ion, ifr, ilo, ire, itk⟩ := hI
  obtain ⟨r0t, r1t, r2t, r3t, r4t, r6t, r10t, r12t, r16t⟩ := itk t ht
  have hkr := heK_rng N t r6t (by omega)
  refine lv_aload_n hx hb d_Mo_held_0 rfl (lv_at hl 0 rfl) ?_
  refine fw_get (ci := 5) (v := .ref (ad 10)) (C := rMo) (T := fMo) (N := 26) hx hb hts iMo hown hK hP hmo rfl 17 (by decide) (hts _ t_525) (fun _ h9 => h9) rfl d_Mo_held_1 ?_
  refine lv_iload_n hx hb d_Mo_held_4 rfl (lv_at hl 1 rfl) ?_
  refine fw_iald hx hb hK hP qa10 (by decide) t rfl (by omega) d_Mo_held_5 ?_
  refine zz_if_le (tgt := 23) hx hb d_Mo_held_6 (by decide) ⟨by omega, by omega⟩ (fun c6 => ?_) (fun c6 => ?_)
  · refine lv_iconst (v := iZ (-1)) hx hb d_Mo_held_23 rfl ?_
    refine lv_istore_n (lv' := [(2, .int (iZ (-1))), (0, .ref b), (1, .int (iZ ((t : Int))))]) hx hb d_Mo_held_24 rfl hl (by decide) rfl (fun ls hl => ?_)
    have ek : heK N t = -1 := by rw [heK, if_neg (by omega)]
    refine lv_iload_n hx hb d_Mo_held_25 rfl (lv_at hl 0 rfl) ?_
    refine zz_if_lt (tgt := 53) hx hb d_Mo_held_26 (by decide) ⟨by omega, by omega⟩ (fun c26 => ?_) (fun c26 => ?_)
    · refine lv_iconst (v := iZ (-1)) hx hb d_Mo_held_53 rfl ?_
      exact ro_iret hx hb hr hlocks d_Mo_held_54 (congrArg iZ (by rw [heM, ek, if_neg (fun q => by omega)]))
    · exfalso; omega
  · refine lv_aload_n hx hb d_Mo_held_9 rfl (lv_at hl 0 rfl) ?_
    refine lv_iload_n hx hb d_Mo_held_10 rfl (lv_at hl 1 rfl) ?_
    refine lv_aload_n hx hb d_Mo_held_11 rfl (lv_at hl 0 rfl) ?_
    refine fw_get (ci := 5) (v := .ref (ad 12)) (C := rMo) (T := fMo) (N := 26) hx hb hts iMo hown hK hP hmo rfl 19 (by decide) (hts _ t_527) (fun _ h9 => h9) rfl d_Mo_held_12 ?_
    refine lv_iload_n hx hb d_Mo_held_15 rfl (lv_at hl 1 rfl) ?_
    refine fw_iald hx hb hK hP qa12 (by decide) t rfl (by omega) d_Mo_held_16 ?_
    refine fw_ro (r := .int (iZ (saM N t ((nA N 12) t)))) (va_runV (As := [.int (iZ ((t : Int))), .int (iZ ((nA N 12) t))]) (rest := []) ⟨hx, hb, hml, hown, hts⟩ (c_Mo_secAt l g w b ad N tb t ((nA N 12) t) hM0 hI0 (by omega) ⟨by omega, by omega⟩) (cwV 2 hts (gdV k_Mo_sectionAt t_607 t_609 t_36 t_50) rfl rfl rfl (by decide +kernel) ⟨Nat.le_of_ble_eq_true rfl, Nat.le_of_ble_eq_true rfl⟩) ⟨roP_blind, fw_recv hK hP hmo rfl, roP_pre hK hP⟩ rfl rfl hl.1 rfl (lv_room (Nat.le_of_ble_eq_true rfl)) d_Mo_held_17 ⟨by decide, by decide⟩) ?_
    refine lv_goto (tgt := 24) hx hb d_Mo_held_20 (by decide) ?_
    refine lv_istore_n (lv' := [(2, .int (iZ (saM N t ((nA N 12) t)))), (0, .ref b), (1, .int (iZ ((t : Int))))]) hx hb d_Mo_held_24 rfl hl (by decide) rfl (fun ls hl => ?_)
    have ek : heK N t = saM N t (nA N 12 t) := by rw [heK, if_pos c6]
    rw [ek] at hkr
    refine lv_iload_n hx hb d_Mo_held_25 rfl (lv_at hl 0 rfl) ?_
    refine zz_if_lt (tgt := 53) hx hb d_Mo_held_26 (by decide) ⟨by omega, by omega⟩ (fun c26 => ?_) (fun c26 => ?_)
    · refine lv_iconst (v := iZ (-1)) hx hb d_Mo_held_53 rfl ?_
      exact ro_iret hx hb hr hlocks d_Mo_held_54 (congrArg iZ (by rw [heM, ek, if_neg (fun q => by omega)]))
    · refine lv_aload_n hx hb d_Mo_held_29 rfl (lv_at hl 1 rfl) ?_
      refine fw_get (ci := 5) (v := .ref (ad 12)) (C := rMo) (T := fMo) (N := 26) hx hb hts iMo hown hK hP hmo rfl 19 (by decide) (hts _ t_527) (fun _ h9 => h9) rfl d_Mo_held_30 ?_
      refine lv_iload_n hx hb d_Mo_held_33 rfl (lv_at hl 2 rfl) ?_
      refine fw_iald hx hb hK hP qa12 (by decide) t rfl (by omega) d_Mo_held_34 ?_
      refine lv_aload_n hx hb d_Mo_held_35 rfl (lv_at hl 1 rfl) ?_
      refine fw_get (ci := 5) (v := .ref (ad 8)) (C := rMo) (T := fMo) (N := 26) hx hb hts iMo hown hK hP hmo rfl 15 (by decide) (hts _ t_523) (fun _ h9 => h9) rfl d_Mo_held_36 ?_
      refine lv_iload_n hx hb d_Mo_held_39 rfl (lv_at hl 0 rfl) ?_
      refine fw_iald hx hb hK hP qa8 (by decide) (((saM N t (nA N 12 t)).toNat)) (by omega) (by omega) d_Mo_held_40 ?_
      have h8 := ifr (saM N t (nA N 12 t)).toNat
      refine zz_icmp_le (tgt := 53) hx hb d_Mo_held_41 (by decide) ⟨by omega, by omega⟩ ⟨by omega, by omega⟩ (fun c41 => ?_) (fun c41 => ?_)
      · refine lv_iconst (v := iZ (-1)) hx hb d_Mo_held_53 rfl ?_
        exact ro_iret hx hb hr hlocks d_Mo_held_54 (congrArg iZ (by rw [heM, ek, if_neg (fun q => by omega)]))
      · refine lv_aload_n hx hb d_Mo_held_44 rfl (lv_at hl 1 rfl) ?_
        refine fw_get (ci := 5) (v := .ref (ad 7)) (C := rMo) (T := fMo) (N := 26) hx hb hts iMo hown hK hP hmo rfl 14 (by decide) (hts _ t_522) (fun _ h9 => h9) rfl d_Mo_held_45 ?_
        refine lv_iload_n hx hb d_Mo_held_48 rfl (lv_at hl 0 rfl) ?_
        refine fw_iald hx hb hK hP qa7 (by decide) (((saM N t (nA N 12 t)).toNat)) (by omega) (by omega) d_Mo_held_49 ?_
        refine lv_goto (tgt := 54) hx hb d_Mo_held_50 (by decide) ?_
        exact ro_iret hx hb hr hlocks d_Mo_held_54 (congrArg iZ (by rw [heM, ek, if_pos ⟨by omega, c41⟩]))

set_option maxHeartbeats 4000000 in
set_option maxRecDepth 100000 in
theorem c_Mo_active (l : Launch) (g : GG) (w : fw) (b : Nat) (ad : Nat → Nat) (N : MoM) (tb : Int) (t : Nat) (hM : MoP g w b ad N) (hI : MoI N tb) (ht : t < nTa N) : RO l y_Mo_active w_Mo_active ({ frames := 2, cells := 0, slots := 0, locals := 45 }) g w [.ref b, .int (iZ ((t : Int)))] (.int (iZ (anM N t))) := by
  refine ro_go (by decide) rfl (Nat.le_of_ble_eq_true rfl) ?_
  intro p e s m below meth c hx hb hr hml hown hts hlocks hK hP ls hl
  have hown : s.vm.findClass rMo = some m.cls := hown
  have hl : lv_has ls 3 [(0, .ref b), (1, .int (iZ ((t : Int))))] := hl
  have hI0 := hI
  have hM0 := hM
  obtain ⟨hmo, qa0, qa1, qa2, qa3, qa4, qa5, qa6, qa7, qa8, qa9, qa10, qa11, qa12, qa13, qa14, qa15, qa16, qa17, qa18, hinj⟩ := hM
  obtain ⟨itb, in6, iti, ila, ibu, ice, ion, ifr, ilo, ire, itk⟩ := hI
  obtain ⟨r0t, r1t, r2t, r3t, r4t, r6t, r10t, r12t, r16t⟩ := itk t ht
  have hhr := heM_rng N t ion
  have hce := ice (heM N t).toNat
  refine lv_aload_n hx hb d_Mo_active_0 rfl (lv_at hl 0 rfl) ?_
  refine lv_iload_n hx hb d_Mo_active_1 rfl (lv_at hl 1 rfl) ?_
  refine fw_ro (r := .int (iZ (heM N t))) (va_runV (As := [.int (iZ ((t : Int)))]) (rest := []) ⟨hx, hb, hml, hown, hts⟩ (c_Mo_held l g w b ad N tb t hM0 hI0 (by omega)) (cwV 1 hts (gdV k_Mo_held t_643 t_645 t_42 t_50) rfl rfl rfl (by decide +kernel) ⟨Nat.le_of_ble_eq_true rfl, Nat.le_of_ble_eq_true rfl⟩) ⟨roP_blind, fw_recv hK hP hmo rfl, roP_pre hK hP⟩ rfl rfl hl.1 rfl (lv_room (Nat.le_of_ble_eq_true rfl)) d_Mo_active_2 ⟨by decide, by decide⟩) ?_
  refine lv_istore_n (lv' := [(2, .int (iZ (heM N t))), (0, .ref b), (1, .int (iZ ((t : Int))))]) hx hb d_Mo_active_5 rfl hl (by decide) rfl (fun ls hl => ?_)
  refine lv_iload_n hx hb d_Mo_active_6 rfl (lv_at hl 0 rfl) ?_
  refine zz_if_lt (tgt := 34) hx hb d_Mo_active_7 (by decide) ⟨by omega, by omega⟩ (fun c7 => ?_) (fun c7 => ?_)
  · refine lv_aload_n hx hb d_Mo_active_34 rfl (lv_at hl 1 rfl) ?_
    refine fw_get (ci := 5) (v := .ref (ad 3)) (C := rMo) (T := fMo) (N := 26) hx hb hts iMo hown hK hP hmo rfl 10 (by decide) (hts _ t_518) (fun _ h9 => h9) rfl d_Mo_active_35 ?_
    refine lv_iload_n hx hb d_Mo_active_38 rfl (lv_at hl 2 rfl) ?_
    refine fw_iald hx hb hK hP qa3 (by decide) t rfl (by omega) d_Mo_active_39 ?_
    exact ro_iret hx hb hr hlocks d_Mo_active_40 (congrArg iZ (by rw [anM, if_neg (fun q => by omega)]))
  · refine lv_aload_n hx hb d_Mo_active_10 rfl (lv_at hl 1 rfl) ?_
    refine fw_get (ci := 5) (v := .ref (ad 5)) (C := rMo) (T := fMo) (N := 26) hx hb hts iMo hown hK hP hmo rfl 12 (by decide) (hts _ t_520) (fun _ h9 => h9) rfl d_Mo_active_11 ?_
    refine lv_iload_n hx hb d_Mo_active_14 rfl (lv_at hl 0 rfl) ?_
    refine fw_iald hx hb hK hP qa5 (by decide) (((heM N t).toNat)) (by omega) (by omega) d_Mo_active_15 ?_
    refine lv_aload_n hx hb d_Mo_active_16 rfl (lv_at hl 1 rfl) ?_
    refine fw_get (ci := 5) (v := .ref (ad 3)) (C := rMo) (T := fMo) (N := 26) hx hb hts iMo hown hK hP hmo rfl 10 (by decide) (hts _ t_518) (fun _ h9 => h9) rfl d_Mo_active_17 ?_
    refine lv_iload_n hx hb d_Mo_active_20 rfl (lv_at hl 2 rfl) ?_
    refine fw_iald hx hb hK hP qa3 (by decide) t rfl (by omega) d_Mo_active_21 ?_
    refine zz_icmp_le (tgt := 34) hx hb d_Mo_active_22 (by decide) ⟨by omega, by omega⟩ ⟨by omega, by omega⟩ (fun c22 => ?_) (fun c22 => ?_)
    · refine lv_aload_n hx hb d_Mo_active_34 rfl (lv_at hl 1 rfl) ?_
      refine fw_get (ci := 5) (v := .ref (ad 3)) (C := rMo) (T := fMo) (N := 26) hx hb hts iMo hown hK hP hmo rfl 10 (by decide) (hts _ t_518) (fun _ h9 => h9) rfl d_Mo_active_35 ?_
      refine lv_iload_n hx hb d_Mo_active_38 rfl (lv_at hl 2 rfl) ?_
      refine fw_iald hx hb hK hP qa3 (by decide) t rfl (by omega) d_Mo_active_39 ?_
      exact ro_iret hx hb hr hlocks d_Mo_active_40 (congrArg iZ (by rw [anM, if_neg (fun q => by omega)]))
    · refine lv_aload_n hx hb d_Mo_active_25 rfl (lv_at hl 1 rfl) ?_
      refine fw_get (ci := 5) (v := .ref (ad 5)) (C := rMo) (T := fMo) (N := 26) hx hb hts iMo hown hK hP hmo rfl 12 (by decide) (hts _ t_520) (fun _ h9 => h9) rfl d_Mo_active_26 ?_
      refine lv_iload_n hx hb d_Mo_active_29 rfl (lv_at hl 0 rfl) ?_
      refine fw_iald hx hb hK hP qa5 (by decide) (((heM N t).toNat)) (by omega) (by omega) d_Mo_active_30 ?_
      refine lv_goto (tgt := 40) hx hb d_Mo_active_31 (by decide) ?_
      exact ro_iret hx hb hr hlocks d_Mo_active_40 (congrArg iZ (by rw [anM, if_pos ⟨by omega, by omega⟩]))

set_option maxHeartbeats 4000000 in
set_option maxRecDepth 100000 in
theorem c_Mo_before (l : Launch) (g : GG) (w : fw) (b : Nat) (ad : Nat → Nat) (N : MoM) (tb : Int) (i j : Nat) (hM : MoP g w b ad N) (hI : MoI N tb) (hi : i < nTa N) (hj : j < nTa N) : RO l y_Mo_goesBefore w_Mo_goesBefore ({ frames := 3, cells := 0, slots := 0, locals := 67 }) g w [.ref b, .int (iZ ((i : Int))), .int (iZ ((j : Int)))] (.int (bZ (gnM N i j))) := by
  refine ro_go (by decide) rfl (Nat.le_of_ble_eq_true rfl) ?_
  intro p e s m below meth c hx hb hr hml hown hts hlocks hK hP ls hl
  have hown : s.vm.findClass rMo = some m.cls := hown
  have hl : lv_has ls 3 [(0, .ref b), (1, .int (iZ ((i : Int)))), (2, .int (iZ ((j : Int))))] := hl
  have hI0 := hI
  have hM0 := hM
  obtain ⟨hmo, qa0, qa1, qa2, qa3, qa4, qa5, qa6, qa7, qa8, qa9, qa10, qa11, qa12, qa13, qa14, qa15, qa16, qa17, qa18, hinj⟩ := hM
  obtain ⟨itb, in6, iti, ila, ibu, ice, ion, ifr, ilo, ire, itk⟩ := hI
  obtain ⟨r0i, r1i, r2i, r3i, r4i, r6i, r10i, r12i, r16i⟩ := itk i hi
  obtain ⟨r0j, r1j, r2j, r3j, r4j, r6j, r10j, r12j, r16j⟩ := itk j hj
  have hai := anM_rng N i ice r3i
  have haj := anM_rng N j ice r3j
  have hhi := heM_rng N i ion
  have hhj := heM_rng N j ion
  have hri := ire (i * 8)
  have hrj := ire (j * 8)
  refine lv_aload_n hx hb d_Mo_goesBefore_0 rfl (lv_at hl 0 rfl) ?_
  refine lv_iload_n hx hb d_Mo_goesBefore_1 rfl (lv_at hl 1 rfl) ?_
  refine fw_ro (r := .int (iZ (anM N i))) (va_runV (As := [.int (iZ ((i : Int)))]) (rest := []) ⟨hx, hb, hml, hown, hts⟩ (c_Mo_active l g w b ad N tb i hM0 hI0 (by omega)) (cwV 1 hts (gdV k_Mo_active t_639 t_641 t_41 t_50) rfl rfl rfl (by decide +kernel) ⟨Nat.le_of_ble_eq_true rfl, Nat.le_of_ble_eq_true rfl⟩) ⟨roP_blind, fw_recv hK hP hmo rfl, roP_pre hK hP⟩ rfl rfl hl.1 rfl (lv_room (Nat.le_of_ble_eq_true rfl)) d_Mo_goesBefore_2 ⟨by decide, by decide⟩) ?_
  refine lv_aload_n hx hb d_Mo_goesBefore_5 rfl (lv_at hl 0 rfl) ?_
  refine lv_iload_n hx hb d_Mo_goesBefore_6 rfl (lv_at hl 2 rfl) ?_
  refine fw_ro (r := .int (iZ (anM N j))) (va_runV (As := [.int (iZ ((j : Int)))]) (rest := [.int (iZ (anM N i))]) ⟨hx, hb, hml, hown, hts⟩ (c_Mo_active l g w b ad N tb j hM0 hI0 (by omega)) (cwV 1 hts (gdV k_Mo_active t_639 t_641 t_41 t_50) rfl rfl rfl (by decide +kernel) ⟨Nat.le_of_ble_eq_true rfl, Nat.le_of_ble_eq_true rfl⟩) ⟨roP_blind, fw_recv hK hP hmo rfl, roP_pre hK hP⟩ rfl rfl hl.1 rfl (lv_room (Nat.le_of_ble_eq_true rfl)) d_Mo_goesBefore_7 ⟨by decide, by decide⟩) ?_
  refine zz_icmp_eq (tgt := 32) hx hb d_Mo_goesBefore_10 (by decide) ⟨by omega, by omega⟩ ⟨by omega, by omega⟩ (fun c10 => ?_) (fun c10 => ?_)
  · refine lv_aload_n hx hb d_Mo_goesBefore_32 rfl (lv_at hl 0 rfl) ?_
    refine lv_iload_n hx hb d_Mo_goesBefore_33 rfl (lv_at hl 1 rfl) ?_
    refine fw_ro (r := .int (iZ (heM N i))) (va_runV (As := [.int (iZ ((i : Int)))]) (rest := []) ⟨hx, hb, hml, hown, hts⟩ (c_Mo_held l g w b ad N tb i hM0 hI0 (by omega)) (cwV 1 hts (gdV k_Mo_held t_643 t_645 t_42 t_50) rfl rfl rfl (by decide +kernel) ⟨Nat.le_of_ble_eq_true rfl, Nat.le_of_ble_eq_true rfl⟩) ⟨roP_blind, fw_recv hK hP hmo rfl, roP_pre hK hP⟩ rfl rfl hl.1 rfl (lv_room (Nat.le_of_ble_eq_true rfl)) d_Mo_goesBefore_34 ⟨by decide, by decide⟩) ?_
    refine zz_if_lt (tgt := 44) hx hb d_Mo_goesBefore_37 (by decide) ⟨by omega, by omega⟩ (fun c37 => ?_) (fun c37 => ?_)
    · refine lv_iconst (v := iZ 0) hx hb d_Mo_goesBefore_44 rfl ?_
      refine lv_aload_n hx hb d_Mo_goesBefore_45 rfl (lv_at hl 0 rfl) ?_
      refine lv_iload_n hx hb d_Mo_goesBefore_46 rfl (lv_at hl 2 rfl) ?_
      refine fw_ro (r := .int (iZ (heM N j))) (va_runV (As := [.int (iZ ((j : Int)))]) (rest := [.int (iZ 0)]) ⟨hx, hb, hml, hown, hts⟩ (c_Mo_held l g w b ad N tb j hM0 hI0 (by omega)) (cwV 1 hts (gdV k_Mo_held t_643 t_645 t_42 t_50) rfl rfl rfl (by decide +kernel) ⟨Nat.le_of_ble_eq_true rfl, Nat.le_of_ble_eq_true rfl⟩) ⟨roP_blind, fw_recv hK hP hmo rfl, roP_pre hK hP⟩ rfl rfl hl.1 rfl (lv_room (Nat.le_of_ble_eq_true rfl)) d_Mo_goesBefore_47 ⟨by decide, by decide⟩) ?_
      refine zz_if_lt (tgt := 57) hx hb d_Mo_goesBefore_50 (by decide) ⟨by omega, by omega⟩ (fun c50 => ?_) (fun c50 => ?_)
      · refine lv_iconst (v := iZ 0) hx hb d_Mo_goesBefore_57 rfl ?_
        refine zz_icmp_eq (tgt := 75) hx hb d_Mo_goesBefore_58 (by decide) ⟨by omega, by omega⟩ ⟨by omega, by omega⟩ (fun c58 => ?_) (fun c58 => ?_)
        · refine lv_iload_n hx hb d_Mo_goesBefore_75 rfl (lv_at hl 1 rfl) ?_
          refine lv_aload_n hx hb d_Mo_goesBefore_76 rfl (lv_at hl 0 rfl) ?_
          refine fw_get (ci := 5) (v := .int (iZ (nLa N))) (C := rMo) (T := fMo) (N := 26) hx hb hts iMo hown hK hP hmo rfl 4 (by decide) (hts _ t_512) (fun _ h9 => h9) rfl d_Mo_goesBefore_77 ?_
          refine zz_icmp_eq (tgt := 91) hx hb d_Mo_goesBefore_80 (by decide) ⟨by omega, by omega⟩ ⟨by omega, by omega⟩ (fun c80 => ?_) (fun c80 => ?_)
          · refine lv_iload_n hx hb d_Mo_goesBefore_91 rfl (lv_at hl 1 rfl) ?_
            refine lv_aload_n hx hb d_Mo_goesBefore_92 rfl (lv_at hl 0 rfl) ?_
            refine fw_get (ci := 5) (v := .int (iZ (nLa N))) (C := rMo) (T := fMo) (N := 26) hx hb hts iMo hown hK hP hmo rfl 4 (by decide) (hts _ t_512) (fun _ h9 => h9) rfl d_Mo_goesBefore_93 ?_
            refine zz_icmp_ne (tgt := 103) hx hb d_Mo_goesBefore_96 (by decide) ⟨by omega, by omega⟩ ⟨by omega, by omega⟩ (fun c96 => ?_) (fun c96 => ?_)
            · refine lv_iconst (v := iZ 0) hx hb d_Mo_goesBefore_103 rfl ?_
              exact ro_zret hx hb hr hlocks d_Mo_goesBefore_104 (bz0 (by rw [gnM, if_neg (fun q => q c10), if_neg (by omega), if_pos (by omega)]; exact decide_eq_false (by omega)))
            · refine lv_iconst (v := iZ 1) hx hb d_Mo_goesBefore_99 rfl ?_
              refine lv_goto (tgt := 104) hx hb d_Mo_goesBefore_100 (by decide) ?_
              exact ro_zret hx hb hr hlocks d_Mo_goesBefore_104 (bz1 (by rw [gnM, if_neg (fun q => q c10), if_neg (by omega), if_pos (by omega)]; exact decide_eq_true (by omega)))
          · refine lv_iload_n hx hb d_Mo_goesBefore_83 rfl (lv_at hl 2 rfl) ?_
            refine lv_aload_n hx hb d_Mo_goesBefore_84 rfl (lv_at hl 0 rfl) ?_
            refine fw_get (ci := 5) (v := .int (iZ (nLa N))) (C := rMo) (T := fMo) (N := 26) hx hb hts iMo hown hK hP hmo rfl 4 (by decide) (hts _ t_512) (fun _ h9 => h9) rfl d_Mo_goesBefore_85 ?_
            refine zz_icmp_ne (tgt := 105) hx hb d_Mo_goesBefore_88 (by decide) ⟨by omega, by omega⟩ ⟨by omega, by omega⟩ (fun c88 => ?_) (fun c88 => ?_)
            · refine lv_aload_n hx hb d_Mo_goesBefore_105 rfl (lv_at hl 0 rfl) ?_
              refine fw_get (ci := 5) (v := .ref (ad 11)) (C := rMo) (T := fMo) (N := 26) hx hb hts iMo hown hK hP hmo rfl 18 (by decide) (hts _ t_526) (fun _ h9 => h9) rfl d_Mo_goesBefore_106 ?_
              refine lv_iload_n hx hb d_Mo_goesBefore_109 rfl (lv_at hl 1 rfl) ?_
              refine lv_bipush (v := iZ 8) hx hb d_Mo_goesBefore_110 (by decide) ?_
              refine zz_imul hx hb d_Mo_goesBefore_112 ?_
              refine fw_iald hx hb hK hP qa11 (by decide) ((i * 8)) (by omega) (by omega) d_Mo_goesBefore_113 ?_
              refine lv_aload_n hx hb d_Mo_goesBefore_114 rfl (lv_at hl 0 rfl) ?_
              refine fw_get (ci := 5) (v := .ref (ad 11)) (C := rMo) (T := fMo) (N := 26) hx hb hts iMo hown hK hP hmo rfl 18 (by decide) (hts _ t_526) (fun _ h9 => h9) rfl d_Mo_goesBefore_115 ?_
              refine lv_iload_n hx hb d_Mo_goesBefore_118 rfl (lv_at hl 2 rfl) ?_
              refine lv_bipush (v := iZ 8) hx hb d_Mo_goesBefore_119 (by decide) ?_
              refine zz_imul hx hb d_Mo_goesBefore_121 ?_
              refine fw_iald hx hb hK hP qa11 (by decide) ((j * 8)) (by omega) (by omega) d_Mo_goesBefore_122 ?_
              refine zz_icmp_eq (tgt := 153) hx hb d_Mo_goesBefore_123 (by decide) ⟨by omega, by omega⟩ ⟨by omega, by omega⟩ (fun c123 => ?_) (fun c123 => ?_)
              · refine lv_iload_n hx hb d_Mo_goesBefore_153 rfl (lv_at hl 1 rfl) ?_
                refine lv_iload_n hx hb d_Mo_goesBefore_154 rfl (lv_at hl 2 rfl) ?_
                refine zz_icmp_ge (tgt := 162) hx hb d_Mo_goesBefore_155 (by decide) ⟨by omega, by omega⟩ ⟨by omega, by omega⟩ (fun c155 => ?_) (fun c155 => ?_)
                · refine lv_iconst (v := iZ 0) hx hb d_Mo_goesBefore_162 rfl ?_
                  exact ro_zret hx hb hr hlocks d_Mo_goesBefore_163 (bz0 (by rw [gnM, if_neg (fun q => q c10), if_neg (by omega), if_neg (by omega), if_neg (fun q => q c123)]; exact decide_eq_false (by omega)))
                · refine lv_iconst (v := iZ 1) hx hb d_Mo_goesBefore_158 rfl ?_
                  refine lv_goto (tgt := 163) hx hb d_Mo_goesBefore_159 (by decide) ?_
                  exact ro_zret hx hb hr hlocks d_Mo_goesBefore_163 (bz1 (by rw [gnM, if_neg (fun q => q c10), if_neg (by omega), if_neg (by omega), if_neg (fun q => q c123)]; exact decide_eq_true (by omega)))
              · refine lv_aload_n hx hb d_Mo_goesBefore_126 rfl (lv_at hl 0 rfl) ?_
                refine fw_get (ci := 5) (v := .ref (ad 11)) (C := rMo) (T := fMo) (N := 26) hx hb hts iMo hown hK hP hmo rfl 18 (by decide) (hts _ t_526) (fun _ h9 => h9) rfl d_Mo_goesBefore_127 ?_
                refine lv_iload_n hx hb d_Mo_goesBefore_130 rfl (lv_at hl 1 rfl) ?_
                refine lv_bipush (v := iZ 8) hx hb d_Mo_goesBefore_131 (by decide) ?_
                refine zz_imul hx hb d_Mo_goesBefore_133 ?_
                refine fw_iald hx hb hK hP qa11 (by decide) ((i * 8)) (by omega) (by omega) d_Mo_goesBefore_134 ?_
                refine lv_aload_n hx hb d_Mo_goesBefore_135 rfl (lv_at hl 0 rfl) ?_
                refine fw_get (ci := 5) (v := .ref (ad 11)) (C := rMo) (T := fMo) (N := 26) hx hb hts iMo hown hK hP hmo rfl 18 (by decide) (hts _ t_526) (fun _ h9 => h9) rfl d_Mo_goesBefore_136 ?_
                refine lv_iload_n hx hb d_Mo_goesBefore_139 rfl (lv_at hl 2 rfl) ?_
                refine lv_bipush (v := iZ 8) hx hb d_Mo_goesBefore_140 (by decide) ?_
                refine zz_imul hx hb d_Mo_goesBefore_142 ?_
                refine fw_iald hx hb hK hP qa11 (by decide) ((j * 8)) (by omega) (by omega) d_Mo_goesBefore_143 ?_
                refine zz_icmp_ge (tgt := 151) hx hb d_Mo_goesBefore_144 (by decide) ⟨by omega, by omega⟩ ⟨by omega, by omega⟩ (fun c144 => ?_) (fun c144 => ?_)
                · refine lv_iconst (v := iZ 0) hx hb d_Mo_goesBefore_151 rfl ?_
                  exact ro_zret hx hb hr hlocks d_Mo_goesBefore_152 (bz0 (by rw [gnM, if_neg (fun q => q c10), if_neg (by omega), if_neg (by omega), if_pos c123]; exact decide_eq_false (by omega)))
                · refine lv_iconst (v := iZ 1) hx hb d_Mo_goesBefore_147 rfl ?_
                  refine lv_goto (tgt := 152) hx hb d_Mo_goesBefore_148 (by decide) ?_
                  exact ro_zret hx hb hr hlocks d_Mo_goesBefore_152 (bz1 (by rw [gnM, if_neg (fun q => q c10), if_neg (by omega), if_neg (by omega), if_pos c123]; exact decide_eq_true (by omega)))
            · refine lv_iload_n hx hb d_Mo_goesBefore_91 rfl (lv_at hl 1 rfl) ?_
              refine lv_aload_n hx hb d_Mo_goesBefore_92 rfl (lv_at hl 0 rfl) ?_
              refine fw_get (ci := 5) (v := .int (iZ (nLa N))) (C := rMo) (T := fMo) (N := 26) hx hb hts iMo hown hK hP hmo rfl 4 (by decide) (hts _ t_512) (fun _ h9 => h9) rfl d_Mo_goesBefore_93 ?_
              refine zz_icmp_ne (tgt := 103) hx hb d_Mo_goesBefore_96 (by decide) ⟨by omega, by omega⟩ ⟨by omega, by omega⟩ (fun c96 => ?_) (fun c96 => ?_)
              · refine lv_iconst (v := iZ 0) hx hb d_Mo_goesBefore_103 rfl ?_
                exact ro_zret hx hb hr hlocks d_Mo_goesBefore_104 (bz0 (by rw [gnM, if_neg (fun q => q c10), if_neg (by omega), if_pos (by omega)]; exact decide_eq_false (by omega)))
              · refine lv_iconst (v := iZ 1) hx hb d_Mo_goesBefore_99 rfl ?_
                refine lv_goto (tgt := 104) hx hb d_Mo_goesBefore_100 (by decide) ?_
                exact ro_zret hx hb hr hlocks d_Mo_goesBefore_104 (bz1 (by rw [gnM, if_neg (fun q => q c10), if_neg (by omega), if_pos (by omega)]; exact decide_eq_true (by omega)))
        · exfalso; omega
      · refine lv_iconst (v := iZ 1) hx hb d_Mo_goesBefore_53 rfl ?_
        refine lv_goto (tgt := 58) hx hb d_Mo_goesBefore_54 (by decide) ?_
        refine zz_icmp_eq (tgt := 75) hx hb d_Mo_goesBefore_58 (by decide) ⟨by omega, by omega⟩ ⟨by omega, by omega⟩ (fun c58 => ?_) (fun c58 => ?_)
        · exfalso; omega
        · refine lv_aload_n hx hb d_Mo_goesBefore_61 rfl (lv_at hl 0 rfl) ?_
          refine lv_iload_n hx hb d_Mo_goesBefore_62 rfl (lv_at hl 1 rfl) ?_
          refine fw_ro (r := .int (iZ (heM N i))) (va_runV (As := [.int (iZ ((i : Int)))]) (rest := []) ⟨hx, hb, hml, hown, hts⟩ (c_Mo_held l g w b ad N tb i hM0 hI0 (by omega)) (cwV 1 hts (gdV k_Mo_held t_643 t_645 t_42 t_50) rfl rfl rfl (by decide +kernel) ⟨Nat.le_of_ble_eq_true rfl, Nat.le_of_ble_eq_true rfl⟩) ⟨roP_blind, fw_recv hK hP hmo rfl, roP_pre hK hP⟩ rfl rfl hl.1 rfl (lv_room (Nat.le_of_ble_eq_true rfl)) d_Mo_goesBefore_63 ⟨by decide, by decide⟩) ?_
          refine zz_if_lt (tgt := 73) hx hb d_Mo_goesBefore_66 (by decide) ⟨by omega, by omega⟩ (fun c66 => ?_) (fun c66 => ?_)
          · refine lv_iconst (v := iZ 0) hx hb d_Mo_goesBefore_73 rfl ?_
            exact ro_zret hx hb hr hlocks d_Mo_goesBefore_74 (bz0 (by rw [gnM, if_neg (fun q => q c10), if_pos (by omega)]; exact decide_eq_false (by omega)))
          · exfalso; omega
    · refine lv_iconst (v := iZ 1) hx hb d_Mo_goesBefore_40 rfl ?_
      refine lv_goto (tgt := 45) hx hb d_Mo_goesBefore_41 (by decide) ?_
      refine lv_aload_n hx hb d_Mo_goesBefore_45 rfl (lv_at hl 0 rfl) ?_
      refine lv_iload_n hx hb d_Mo_goesBefore_46 rfl (lv_at hl 2 rfl) ?_
      refine fw_ro (r := .int (iZ (heM N j))) (va_runV (As := [.int (iZ ((j : Int)))]) (rest := [.int (iZ 1)]) ⟨hx, hb, hml, hown, hts⟩ (c_Mo_held l g w b ad N tb j hM0 hI0 (by omega)) (cwV 1 hts (gdV k_Mo_held t_643 t_645 t_42 t_50) rfl rfl rfl (by decide +kernel) ⟨Nat.le_of_ble_eq_true rfl, Nat.le_of_ble_eq_true rfl⟩) ⟨roP_blind, fw_recv hK hP hmo rfl, roP_pre hK hP⟩ rfl rfl hl.1 rfl (lv_room (Nat.le_of_ble_eq_true rfl)) d_Mo_goesBefore_47 ⟨by decide, by decide⟩) ?_
      refine zz_if_lt (tgt := 57) hx hb d_Mo_goesBefore_50 (by decide) ⟨by omega, by omega⟩ (fun c50 => ?_) (fun c50 => ?_)
      · refine lv_iconst (v := iZ 0) hx hb d_Mo_goesBefore_57 rfl ?_
        refine zz_icmp_eq (tgt := 75) hx hb d_Mo_goesBefore_58 (by decide) ⟨by omega, by omega⟩ ⟨by omega, by omega⟩ (fun c58 => ?_) (fun c58 => ?_)
        · exfalso; omega
        · refine lv_aload_n hx hb d_Mo_goesBefore_61 rfl (lv_at hl 0 rfl) ?_
          refine lv_iload_n hx hb d_Mo_goesBefore_62 rfl (lv_at hl 1 rfl) ?_
          refine fw_ro (r := .int (iZ (heM N i))) (va_runV (As := [.int (iZ ((i : Int)))]) (rest := []) ⟨hx, hb, hml, hown, hts⟩ (c_Mo_held l g w b ad N tb i hM0 hI0 (by omega)) (cwV 1 hts (gdV k_Mo_held t_643 t_645 t_42 t_50) rfl rfl rfl (by decide +kernel) ⟨Nat.le_of_ble_eq_true rfl, Nat.le_of_ble_eq_true rfl⟩) ⟨roP_blind, fw_recv hK hP hmo rfl, roP_pre hK hP⟩ rfl rfl hl.1 rfl (lv_room (Nat.le_of_ble_eq_true rfl)) d_Mo_goesBefore_63 ⟨by decide, by decide⟩) ?_
          refine zz_if_lt (tgt := 73) hx hb d_Mo_goesBefore_66 (by decide) ⟨by omega, by omega⟩ (fun c66 => ?_) (fun c66 => ?_)
          · exfalso; omega
          · refine lv_iconst (v := iZ 1) hx hb d_Mo_goesBefore_69 rfl ?_
            refine lv_goto (tgt := 74) hx hb d_Mo_goesBefore_70 (by decide) ?_
            exact ro_zret hx hb hr hlocks d_Mo_goesBefore_74 (bz1 (by rw [gnM, if_neg (fun q => q c10), if_pos (by omega)]; exact decide_eq_true (by omega)))
      · refine lv_iconst (v := iZ 1) hx hb d_Mo_goesBefore_53 rfl ?_
        refine lv_goto (tgt := 58) hx hb d_Mo_goesBefore_54 (by decide) ?_
        refine zz_icmp_eq (tgt := 75) hx hb d_Mo_goesBefore_58 (by decide) ⟨by omega, by omega⟩ ⟨by omega, by omega⟩ (fun c58 => ?_) (fun c58 => ?_)
        · refine lv_iload_n hx hb d_Mo_goesBefore_75 rfl (lv_at hl 1 rfl) ?_
          refine lv_aload_n hx hb d_Mo_goesBefore_76 rfl (lv_at hl 0 rfl) ?_
          refine fw_get (ci := 5) (v := .int (iZ (nLa N))) (C := rMo) (T := fMo) (N := 26) hx hb hts iMo hown hK hP hmo rfl 4 (by decide) (hts _ t_512) (fun _ h9 => h9) rfl d_Mo_goesBefore_77 ?_
          refine zz_icmp_eq (tgt := 91) hx hb d_Mo_goesBefore_80 (by decide) ⟨by omega, by omega⟩ ⟨by omega, by omega⟩ (fun c80 => ?_) (fun c80 => ?_)
          · refine lv_iload_n hx hb d_Mo_goesBefore_91 rfl (lv_at hl 1 rfl) ?_
            refine lv_aload_n hx hb d_Mo_goesBefore_92 rfl (lv_at hl 0 rfl) ?_
            refine fw_get (ci := 5) (v := .int (iZ (nLa N))) (C := rMo) (T := fMo) (N := 26) hx hb hts iMo hown hK hP hmo rfl 4 (by decide) (hts _ t_512) (fun _ h9 => h9) rfl d_Mo_goesBefore_93 ?_
            refine zz_icmp_ne (tgt := 103) hx hb d_Mo_goesBefore_96 (by decide) ⟨by omega, by omega⟩ ⟨by omega, by omega⟩ (fun c96 => ?_) (fun c96 => ?_)
            · refine lv_iconst (v := iZ 0) hx hb d_Mo_goesBefore_103 rfl ?_
              exact ro_zret hx hb hr hlocks d_Mo_goesBefore_104 (bz0 (by rw [gnM, if_neg (fun q => q c10), if_neg (by omega), if_pos (by omega)]; exact decide_eq_false (by omega)))
            · refine lv_iconst (v := iZ 1) hx hb d_Mo_goesBefore_99 rfl ?_
              refine lv_goto (tgt := 104) hx hb d_Mo_goesBefore_100 (by decide) ?_
              exact ro_zret hx hb hr hlocks d_Mo_goesBefore_104 (bz1 (by rw [gnM, if_neg (fun q => q c10), if_neg (by omega), if_pos (by omega)]; exact decide_eq_true (by omega)))
          · refine lv_iload_n hx hb d_Mo_goesBefore_83 rfl (lv_at hl 2 rfl) ?_
            refine lv_aload_n hx hb d_Mo_goesBefore_84 rfl (lv_at hl 0 rfl) ?_
            refine fw_get (ci := 5) (v := .int (iZ (nLa N))) (C := rMo) (T := fMo) (N := 26) hx hb hts iMo hown hK hP hmo rfl 4 (by decide) (hts _ t_512) (fun _ h9 => h9) rfl d_Mo_goesBefore_85 ?_
            refine zz_icmp_ne (tgt := 105) hx hb d_Mo_goesBefore_88 (by decide) ⟨by omega, by omega⟩ ⟨by omega, by omega⟩ (fun c88 => ?_) (fun c88 => ?_)
            · refine lv_aload_n hx hb d_Mo_goesBefore_105 rfl (lv_at hl 0 rfl) ?_
              refine fw_get (ci := 5) (v := .ref (ad 11)) (C := rMo) (T := fMo) (N := 26) hx hb hts iMo hown hK hP hmo rfl 18 (by decide) (hts _ t_526) (fun _ h9 => h9) rfl d_Mo_goesBefore_106 ?_
              refine lv_iload_n hx hb d_Mo_goesBefore_109 rfl (lv_at hl 1 rfl) ?_
              refine lv_bipush (v := iZ 8) hx hb d_Mo_goesBefore_110 (by decide) ?_
              refine zz_imul hx hb d_Mo_goesBefore_112 ?_
              refine fw_iald hx hb hK hP qa11 (by decide) ((i * 8)) (by omega) (by omega) d_Mo_goesBefore_113 ?_
              refine lv_aload_n hx hb d_Mo_goesBefore_114 rfl (lv_at hl 0 rfl) ?_
              refine fw_get (ci := 5) (v := .ref (ad 11)) (C := rMo) (T := fMo) (N := 26) hx hb hts iMo hown hK hP hmo rfl 18 (by decide) (hts _ t_526) (fun _ h9 => h9) rfl d_Mo_goesBefore_115 ?_
              refine lv_iload_n hx hb d_Mo_goesBefore_118 rfl (lv_at hl 2 rfl) ?_
              refine lv_bipush (v := iZ 8) hx hb d_Mo_goesBefore_119 (by decide) ?_
              refine zz_imul hx hb d_Mo_goesBefore_121 ?_
              refine fw_iald hx hb hK hP qa11 (by decide) ((j * 8)) (by omega) (by omega) d_Mo_goesBefore_122 ?_
              refine zz_icmp_eq (tgt := 153) hx hb d_Mo_goesBefore_123 (by decide) ⟨by omega, by omega⟩ ⟨by omega, by omega⟩ (fun c123 => ?_) (fun c123 => ?_)
              · refine lv_iload_n hx hb d_Mo_goesBefore_153 rfl (lv_at hl 1 rfl) ?_
                refine lv_iload_n hx hb d_Mo_goesBefore_154 rfl (lv_at hl 2 rfl) ?_
                refine zz_icmp_ge (tgt := 162) hx hb d_Mo_goesBefore_155 (by decide) ⟨by omega, by omega⟩ ⟨by omega, by omega⟩ (fun c155 => ?_) (fun c155 => ?_)
                · refine lv_iconst (v := iZ 0) hx hb d_Mo_goesBefore_162 rfl ?_
                  exact ro_zret hx hb hr hlocks d_Mo_goesBefore_163 (bz0 (by rw [gnM, if_neg (fun q => q c10), if_neg (by omega), if_neg (by omega), if_neg (fun q => q c123)]; exact decide_eq_false (by omega)))
                · refine lv_iconst (v := iZ 1) hx hb d_Mo_goesBefore_158 rfl ?_
                  refine lv_goto (tgt := 163) hx hb d_Mo_goesBefore_159 (by decide) ?_
                  exact ro_zret hx hb hr hlocks d_Mo_goesBefore_163 (bz1 (by rw [gnM, if_neg (fun q => q c10), if_neg (by omega), if_neg (by omega), if_neg (fun q => q c123)]; exact decide_eq_true (by omega)))
              · refine lv_aload_n hx hb d_Mo_goesBefore_126 rfl (lv_at hl 0 rfl) ?_
                refine fw_get (ci := 5) (v := .ref (ad 11)) (C := rMo) (T := fMo) (N := 26) hx hb hts iMo hown hK hP hmo rfl 18 (by decide) (hts _ t_526) (fun _ h9 => h9) rfl d_Mo_goesBefore_127 ?_
                refine lv_iload_n hx hb d_Mo_goesBefore_130 rfl (lv_at hl 1 rfl) ?_
                refine lv_bipush (v := iZ 8) hx hb d_Mo_goesBefore_131 (by decide) ?_
                refine zz_imul hx hb d_Mo_goesBefore_133 ?_
                refine fw_iald hx hb hK hP qa11 (by decide) ((i * 8)) (by omega) (by omega) d_Mo_goesBefore_134 ?_
                refine lv_aload_n hx hb d_Mo_goesBefore_135 rfl (lv_at hl 0 rfl) ?_
                refine fw_get (ci := 5) (v := .ref (ad 11)) (C := rMo) (T := fMo) (N := 26) hx hb hts iMo hown hK hP hmo rfl 18 (by decide) (hts _ t_526) (fun _ h9 => h9) rfl d_Mo_goesBefore_136 ?_
                refine lv_iload_n hx hb d_Mo_goesBefore_139 rfl (lv_at hl 2 rfl) ?_
                refine lv_bipush (v := iZ 8) hx hb d_Mo_goesBefore_140 (by decide) ?_
                refine zz_imul hx hb d_Mo_goesBefore_142 ?_
                refine fw_iald hx hb hK hP qa11 (by decide) ((j * 8)) (by omega) (by omega) d_Mo_goesBefore_143 ?_
                refine zz_icmp_ge (tgt := 151) hx hb d_Mo_goesBefore_144 (by decide) ⟨by omega, by omega⟩ ⟨by omega, by omega⟩ (fun c144 => ?_) (fun c144 => ?_)
                · refine lv_iconst (v := iZ 0) hx hb d_Mo_goesBefore_151 rfl ?_
                  exact ro_zret hx hb hr hlocks d_Mo_goesBefore_152 (bz0 (by rw [gnM, if_neg (fun q => q c10), if_neg (by omega), if_neg (by omega), if_pos c123]; exact decide_eq_false (by omega)))
                · refine lv_iconst (v := iZ 1) hx hb d_Mo_goesBefore_147 rfl ?_
                  refine lv_goto (tgt := 152) hx hb d_Mo_goesBefore_148 (by decide) ?_
                  exact ro_zret hx hb hr hlocks d_Mo_goesBefore_152 (bz1 (by rw [gnM, if_neg (fun q => q c10), if_neg (by omega), if_neg (by omega), if_pos c123]; exact decide_eq_true (by omega)))
            · refine lv_iload_n hx hb d_Mo_goesBefore_91 rfl (lv_at hl 1 rfl) ?_
              refine lv_aload_n hx hb d_Mo_goesBefore_92 rfl (lv_at hl 0 rfl) ?_
              refine fw_get (ci := 5) (v := .int (iZ (nLa N))) (C := rMo) (T := fMo) (N := 26) hx hb hts iMo hown hK hP hmo rfl 4 (by decide) (hts _ t_512) (fun _ h9 => h9) rfl d_Mo_goesBefore_93 ?_
              refine zz_icmp_ne (tgt := 103) hx hb d_Mo_goesBefore_96 (by decide) ⟨by omega, by omega⟩ ⟨by omega, by omega⟩ (fun c96 => ?_) (fun c96 => ?_)
              · refine lv_iconst (v := iZ 0) hx hb d_Mo_goesBefore_103 rfl ?_
                exact ro_zret hx hb hr hlocks d_Mo_goesBefore_104 (bz0 (by rw [gnM, if_neg (fun q => q c10), if_neg (by omega), if_pos (by omega)]; exact decide_eq_false (by omega)))
              · refine lv_iconst (v := iZ 1) hx hb d_Mo_goesBefore_99 rfl ?_
                refine lv_goto (tgt := 104) hx hb d_Mo_goesBefore_100 (by decide) ?_
                exact ro_zret hx hb hr hlocks d_Mo_goesBefore_104 (bz1 (by rw [gnM, if_neg (fun q => q c10), if_neg (by omega), if_pos (by omega)]; exact decide_eq_true (by omega)))
        · exfalso; omega
  · refine lv_aload_n hx hb d_Mo_goesBefore_13 rfl (lv_at hl 0 rfl) ?_
    refine lv_iload_n hx hb d_Mo_goesBefore_14 rfl (lv_at hl 1 rfl) ?_
    refine fw_ro (r := .int (iZ (anM N i))) (va_runV (As := [.int (iZ ((i : Int)))]) (rest := []) ⟨hx, hb, hml, hown, hts⟩ (c_Mo_active l g w b ad N tb i hM0 hI0 (by omega)) (cwV 1 hts (gdV k_Mo_active t_639 t_641 t_41 t_50) rfl rfl rfl (by decide +kernel) ⟨Nat.le_of_ble_eq_true rfl, Nat.le_of_ble_eq_true rfl⟩) ⟨roP_blind, fw_recv hK hP hmo rfl, roP_pre hK hP⟩ rfl rfl hl.1 rfl (lv_room (Nat.le_of_ble_eq_true rfl)) d_Mo_goesBefore_15 ⟨by decide, by decide⟩) ?_
    refine lv_aload_n hx hb d_Mo_goesBefore_18 rfl (lv_at hl 0 rfl) ?_
    refine lv_iload_n hx hb d_Mo_goesBefore_19 rfl (lv_at hl 2 rfl) ?_
    refine fw_ro (r := .int (iZ (anM N j))) (va_runV (As := [.int (iZ ((j : Int)))]) (rest := [.int (iZ (anM N i))]) ⟨hx, hb, hml, hown, hts⟩ (c_Mo_active l g w b ad N tb j hM0 hI0 (by omega)) (cwV 1 hts (gdV k_Mo_active t_639 t_641 t_41 t_50) rfl rfl rfl (by decide +kernel) ⟨Nat.le_of_ble_eq_true rfl, Nat.le_of_ble_eq_true rfl⟩) ⟨roP_blind, fw_recv hK hP hmo rfl, roP_pre hK hP⟩ rfl rfl hl.1 rfl (lv_room (Nat.le_of_ble_eq_true rfl)) d_Mo_goesBefore_20 ⟨by decide, by decide⟩) ?_
    refine zz_icmp_le (tgt := 30) hx hb d_Mo_goesBefore_23 (by decide) ⟨by omega, by omega⟩ ⟨by omega, by omega⟩ (fun c23 => ?_) (fun c23 => ?_)
    · refine lv_iconst (v := iZ 0) hx hb d_Mo_goesBefore_30 rfl ?_
      exact ro_zret hx hb hr hlocks d_Mo_goesBefore_31 (bz0 (by rw [gnM, if_pos c10]; exact decide_eq_false (by omega)))
    · refine lv_iconst (v := iZ 1) hx hb d_Mo_goesBefore_26 rfl ?_
      refine lv_goto (tgt := 31) hx hb d_Mo_goesBefore_27 (by decide) ?_
      exact ro_zret hx hb hr hlocks d_Mo_goesBefore_31 (bz1 (by rw [gnM, if_pos c10]; exact decide_eq_true (by omega)))
