def bjI (N : MoM) (i t : Nat) : Nat → Nat → Int → Int
  | 0, _, x => x
  | f + 1, k, x => bjI N i t f (k + 1) (if nA N 3 i < nA N 3 t ∧ nA N 3 t ≤ nA N 5 (nA N 7 k).toNat ∧ x < nA N 9 k then nA N 9 k else x)
def bjF (N : MoM) (t : Nat) : Nat → Nat → Int → Int
  | 0, _, x => x
  | f + 1, i, x => bjF N t f (i + 1) (bjI N i t (nA N 6 i).toNat (i * 3) x)
def bjM (N : MoM) (t : Nat) : Int := bjF N t (nTa N) 0 0
def bvM (N : MoM) (v : Int) : Int := if v < 0 ∨ (nTa N : Int) ≤ v then -1 else bjM N v.toNat
theorem bvM_in {N : MoM} {t : Nat} (h : t < nTa N) : bvM N (t : Int) = bjM N t := by rw [bvM, if_neg (by omega)]; rfl
theorem bjI_rng (N : MoM) (i t : Nat) (hl : ∀ k, 0 ≤ nA N 9 k ∧ nA N 9 k ≤ 60) : ∀ (f k : Nat) (x : Int), (0 ≤ x ∧ x ≤ 60) → 0 ≤ bjI N i t f k x ∧ bjI N i t f k x ≤ 60
  | 0, _, _, h => h
  | f + 1, k, x, h => by
    have := hl k
    exact bjI_rng N i t hl f (k + 1) _ (by split <;> omega)
theorem bjF_rng (N : MoM) (t : Nat) (hl : ∀ k, 0 ≤ nA N 9 k ∧ nA N 9 k ≤ 60) : ∀ (f k : Nat) (x : Int), (0 ≤ x ∧ x ≤ 60) → 0 ≤ bjF N t f k x ∧ bjF N t f k x ≤ 60
  | 0, _, _, h => h
  | f + 1, k, x, h => bjF_rng N t hl f (k + 1) _ (bjI_rng N k t hl _ _ x h)
def bnI (N : MoM) (t : Nat) (r : Int) : Nat → Nat → Int → Int
  | 0, _, x => x
  | f + 1, j, x => bnI N t r f (j + 1) (if (j : Int) ≠ (t : Int) ∧ nA N 3 t ≤ nA N 3 j then x + nA N 1 j * ((r + nA N 0 j - 1) / nA N 0 j) else x)
def bnF (N : MoM) (t : Nat) : Nat → Int → Int
  | 0, _ => -3
  | f + 1, r => if bnI N t r (nTa N) 0 (nA N 1 t + bjM N t) = r then r else bnF N t f (r + 1)
def bnM (N : MoM) (t : Nat) : Int := bnF N t (nA N 0 t).toNat 1
def bwM (N : MoM) (v : Int) : Int := if v < 0 ∨ (nTa N : Int) ≤ v then -1 else bnM N v.toNat
theorem bwM_in {N : MoM} {t : Nat} (h : t < nTa N) : bwM N (t : Int) = bnM N t := by rw [bwM, if_neg (by omega)]; rfl
theorem bnF_rng (N : MoM) (t : Nat) : ∀ (f : Nat) (r : Int), 1 ≤ r → bnF N t f r = -3 ∨ (1 ≤ bnF N t f r ∧ bnF N t f r < r + (f : Int))
  | 0, _, _ => Or.inl rfl
  | f + 1, r, h => by
    rw [bnF]
    split
    · right; omega
    · rcases bnF_rng N t f (r + 1) (by omega) with z | z
      · exact Or.inl z
      · right; omega
theorem bnM_rng (N : MoM) (t : Nat) (h : 2 ≤ nA N 0 t ∧ nA N 0 t ≤ 60) : bnM N t = -3 ∨ (1 ≤ bnM N t ∧ bnM N t ≤ 60) := by
  rcases bnF_rng N t (nA N 0 t).toNat 1 (by omega) with z | z
  · exact Or.inl z
  · right; unfold bnM; omega
def tnN (N : MoM) (t : Nat) (wh : Int) : Int :=
  if wh = 0 then nA N 13 t else if wh = 1 then nA N 14 t else if wh = 2 then nA N 15 t else if wh = 3 then nA N 16 t
  else if nA N 10 t = 0 then -3 else if wh = 4 then nA N 12 t else if wh = 5 then anM N t else nA N 11 (t * 8)
def tnM (N : MoM) (v wh : Int) : Int := if (v < 0 ∨ (nTa N : Int) ≤ v) ∨ (wh < 0 ∨ 6 < wh) then -1 else tnN N v.toNat wh
def hnF (N : MoM) (ob : Int) : Nat → Nat → Int
  | 0, _ => -3
  | f + 1, i => if heM N i = ob then (i : Int) else hnF N ob f (i + 1)
def hnM (N : MoM) (ob : Int) : Int := if ob < 0 ∨ 3 < ob then -1 else hnF N ob (nTa N) 0
def lnM (N : MoM) (x : Int) : Int := if x < 0 ∨ nTi N ≤ x ∨ x < nTi N - 64 then -1 else nA N 18 (x % 64).toNat
def cbM (N : MoM) (x : Int) (i : Nat) : Int := if x = 5 then bnM N i else 1
def coF (N : MoM) : Nat → Nat → Int → Int
  | 0, _, o => o
  | f + 1, i, o => coF N f (i + 1) (o + nA N 10 i)
def cfF (N : MoM) (x : Int) : Nat → Nat → Int → Int
  | 0, _, y => y
  | f + 1, i, y => cfF N x f (i + 1) (if cbM N x i < 0 ∨ nA N 2 i < cbM N x i then 0 else y)
def cxM (N : MoM) (x : Int) : Int :=
  if x = 0 then nTi N else if x = 1 then nId N else if x = 2 then nSw N else if x = 3 then (nTa N : Int) else if x = 4 then coF N (nTa N) 0 0 else if x = 5 then cfF N x (nTa N) 0 1 else -1
set_option maxHeartbeats 4000000 in
set_option maxRecDepth 100000 in
theorem c_Mo_ran (l : Launch) (g : GG) (w : fw) (b : Nat) (ad : Nat → Nat) (N : MoM) (tb : Int) (hM : MoP g w b ad N) (hI : MoI N tb) : RO l y_Mo_ran w_Mo_ran ({ frames := 0, cells := 0, slots := 0, locals := 0 }) g w [.ref b] (.int (iZ (nLa N))) := by
  refine ro_go (by decide) rfl (Nat.le_of_ble_eq_true rfl) ?_
  intro p e s m below meth c hx hb hr hml hown hts hlocks hK hP ls hl
  have hown : s.vm.findClass rMo = some m.cls := hown
  have hl : lv_has ls 1 [(0, .ref b)] := hl
  have hI0 := hI
  have hM0 := hM
  obtain ⟨hmo, qa0, qa1, qa2, qa3, qa4, qa5, qa6, qa7, qa8, qa9, qa10, qa11, qa12, qa13, qa14, qa15, qa16, qa17, qa18, hinj⟩ := hM
  obtain ⟨itb, in6, iti, ila, ibu, ice, ion, ifr, ilo, ire, itk⟩ := hI
  refine lv_aload_n hx hb d_Mo_ran_0 rfl (lv_at hl 0 rfl) ?_
  refine fw_get (ci := 5) (v := .int (iZ (nLa N))) (C := rMo) (T := fMo) (N := 26) hx hb hts iMo hown hK hP hmo rfl 4 (by decide) (hts _ t_512) (fun _ h9 => h9) rfl d_Mo_ran_1 ?_
  exact ro_iret hx hb hr hlocks d_Mo_ran_4 rfl

set_option maxHeartbeats 4000000 in
set_option maxRecDepth 100000 in
theorem c_Mo_blocking (l : Launch) (g : GG) (w : fw) (b : Nat) (ad : Nat → Nat) (N : MoM) (tb : Int) (v : Int) (hM : MoP g w b ad N) (hI : MoI N tb) (hr_0 : ir v) : RO l y_Mo_blocking w_Mo_blocking ({ frames := 1, cells := 0, slots := 0, locals := 21 }) g w [.ref b, .int (iZ v)] (.int (iZ (bvM N v))) := by
  refine ro_go (by decide) rfl (Nat.le_of_ble_eq_true rfl) ?_
  intro p e s m below meth c hx hb hr hml hown hts hlocks hK hP ls hl
  have hown : s.vm.findClass rMo = some m.cls := hown
  have hl : lv_has ls 5 [(0, .ref b), (1, .int (iZ v))] := hl
  have hI0 := hI
  have hM0 := hM
  obtain ⟨hmo, qa0, qa1, qa2, qa3, qa4, qa5, qa6, qa7, qa8, qa9, qa10, qa11, qa12, qa13, qa14, qa15, qa16, qa17, qa18, hinj⟩ := hM
  obtain ⟨itb, in6, iti, ila, ibu, ice, ion, ifr, ilo, ire, itk⟩ := hI
  obtain ⟨hr_0a, hr_0b⟩ := hr_0
  refine lv_aload_n hx hb d_Mo_blocking_0 rfl (lv_at hl 0 rfl) ?_
  refine lv_iload_n hx hb d_Mo_blocking_1 rfl (lv_at hl 1 rfl) ?_
  refine fw_ro (r := .int (bZ (decide (v < 0 ∨ (nTa N : Int) ≤ v)))) (va_runV (As := [.int (iZ v)]) (rest := []) ⟨hx, hb, hml, hown, hts⟩ (c_Mo_no l g w b ad N tb v hM0 hI0 ⟨by omega, by omega⟩) (cwV 1 hts (gdV k_Mo_no t_603 t_605 t_35 t_50) rfl rfl rfl (by decide +kernel) ⟨Nat.le_of_ble_eq_true rfl, Nat.le_of_ble_eq_true rfl⟩) ⟨roP_blind, fw_recv hK hP hmo rfl, roP_pre hK hP⟩ rfl rfl hl.1 rfl (lv_room (Nat.le_of_ble_eq_true rfl)) d_Mo_blocking_2 ⟨by decide, by decide⟩) ?_
  refine zb_if_eq (tgt := 10) hx hb d_Mo_blocking_5 (by decide) (fun c5 => ?_) (fun c5 => ?_)
  · have nc5 := of_decide_eq_false c5
    obtain ⟨t, et⟩ := Int.eq_ofNat_of_zero_le (show 0 ≤ v by omega)
    subst et
    have ht : t < nTa N := by omega
    obtain ⟨r0t, r1t, r2t, r3t, r4t, r6t, r10t, r12t, r16t⟩ := itk t ht
    refine lv_iconst (v := iZ 0) hx hb d_Mo_blocking_10 rfl ?_
    refine lv_istore_n (lv' := [(2, .int (iZ 0)), (0, .ref b), (1, .int (iZ ((t : Int))))]) hx hb d_Mo_blocking_11 rfl hl (by decide) rfl (fun ls hl => ?_)
    refine lv_iconst (v := iZ 0) hx hb d_Mo_blocking_12 rfl ?_
    refine lv_istore_n (lv' := [(3, .int (iZ 0)), (2, .int (iZ 0)), (0, .ref b), (1, .int (iZ ((t : Int))))]) hx hb d_Mo_blocking_13 rfl hl (by decide) rfl (fun ls hl => ?_)
    have lp : ∀ (f i : Nat) (x : Int), i + f = nTa N → (bjM N t = bjF N t f i x) → (0 ≤ x ∧ x ≤ 60) → ∀ ls : Array Slot, lv_has ls 5 [(3, .int (iZ ((i : Int)))), (2, .int (iZ x)), (0, .ref b), (1, .int (iZ ((t : Int))))] → W p l e ({ frames := 1, cells := 0, slots := 0, locals := 21 }) s m ([.ref b, .int (iZ (t : Int))] : List Value).toArray below meth c s.heap [] 0 0 (MQ below (k2_QcV (.int (iZ (bvM N (t : Int))))) ([.ref b, .int (iZ (t : Int))] : List Value).toArray s 0 0 (fun _ => False)) (F0 m 14 ls []) := by
      intro f
      induction f with
      | zero =>
        intro i x hif hv hx2 ls hl
        refine lv_iload_n hx hb d_Mo_blocking_14 rfl (lv_at hl 0 rfl) ?_
        refine lv_aload_n hx hb d_Mo_blocking_15 rfl (lv_at hl 2 rfl) ?_
        refine fw_get (ci := 5) (v := .int (iZ ((nTa N : Int)))) (C := rMo) (T := fMo) (N := 26) hx hb hts iMo hown hK hP hmo rfl 0 (by decide) (hts _ t_508) (fun _ h9 => h9) rfl d_Mo_blocking_16 ?_
        refine zz_icmp_ge (tgt := 109) hx hb d_Mo_blocking_19 (by decide) ⟨by omega, by omega⟩ ⟨by omega, by omega⟩ (fun c19 => ?_) (fun c19 => ?_)
        · refine lv_iload_n hx hb d_Mo_blocking_109 rfl (lv_at hl 1 rfl) ?_
          exact ro_iret hx hb hr hlocks d_Mo_blocking_110 (congrArg iZ (by rw [bvM_in ht, hv]; rfl))
        · exfalso; omega
      | succ f ih =>
        intro i x hif hv hx2 ls hl
        refine lv_iload_n hx hb d_Mo_blocking_14 rfl (lv_at hl 0 rfl) ?_
        refine lv_aload_n hx hb d_Mo_blocking_15 rfl (lv_at hl 2 rfl) ?_
        refine fw_get (ci := 5) (v := .int (iZ ((nTa N : Int)))) (C := rMo) (T := fMo) (N := 26) hx hb hts iMo hown hK hP hmo rfl 0 (by decide) (hts _ t_508) (fun _ h9 => h9) rfl d_Mo_blocking_16 ?_
        refine zz_icmp_ge (tgt := 109) hx hb d_Mo_blocking_19 (by decide) ⟨by omega, by omega⟩ ⟨by omega, by omega⟩ (fun c19 => ?_) (fun c19 => ?_)
        · exfalso; omega
        · obtain ⟨r0i, r1i, r2i, r3i, r4i, r6i, r10i, r12i, r16i⟩ := itk i (by omega)
          refine lv_iload_n hx hb d_Mo_blocking_22 rfl (lv_at hl 0 rfl) ?_
          refine lv_iconst (v := iZ 3) hx hb d_Mo_blocking_23 rfl ?_
          refine zz_imul hx hb d_Mo_blocking_24 ?_
          refine lv_istore (lv' := [(4, .int (iZ (((i : Int)) * 3))), (3, .int (iZ ((i : Int)))), (2, .int (iZ x)), (0, .ref b), (1, .int (iZ ((t : Int))))]) hx hb d_Mo_blocking_25 hl (by decide) rfl (fun ls hl => ?_)
          have lp2 : ∀ (f2 k : Nat) (y : Int), k + f2 = i * 3 + (nA N 6 i).toNat → (bjI N i t (nA N 6 i).toNat (i * 3) x = bjI N i t f2 k y) → (0 ≤ y ∧ y ≤ 60) → (i * 3 ≤ k) → ∀ ls : Array Slot, lv_has ls 5 [(4, .int (iZ ((k : Int)))), (2, .int (iZ y)), (0, .ref b), (1, .int (iZ ((t : Int)))), (3, .int (iZ ((i : Int))))] → W p l e ({ frames := 1, cells := 0, slots := 0, locals := 21 }) s m ([.ref b, .int (iZ (t : Int))] : List Value).toArray below meth c s.heap [] 0 0 (MQ below (k2_QcV (.int (iZ (bvM N (t : Int))))) ([.ref b, .int (iZ (t : Int))] : List Value).toArray s 0 0 (fun _ => False)) (F0 m 27 ls []) := by
            intro f2
            induction f2 with
            | zero =>
              intro k y hif2 hv2 hk2 hkk ls hl
              refine lv_iload hx hb d_Mo_blocking_27 (lv_at hl 0 rfl) ?_
              refine lv_iload_n hx hb d_Mo_blocking_29 rfl (lv_at hl 4 rfl) ?_
              refine lv_iconst (v := iZ 3) hx hb d_Mo_blocking_30 rfl ?_
              refine zz_imul hx hb d_Mo_blocking_31 ?_
              refine lv_aload_n hx hb d_Mo_blocking_32 rfl (lv_at hl 2 rfl) ?_
              refine fw_get (ci := 5) (v := .ref (ad 6)) (C := rMo) (T := fMo) (N := 26) hx hb hts iMo hown hK hP hmo rfl 13 (by decide) (hts _ t_521) (fun _ h9 => h9) rfl d_Mo_blocking_33 ?_
              refine lv_iload_n hx hb d_Mo_blocking_36 rfl (lv_at hl 4 rfl) ?_
              refine fw_iald hx hb hK hP qa6 (by decide) i rfl (by omega) d_Mo_blocking_37 ?_
              refine zz_iadd hx hb d_Mo_blocking_38 ?_
              refine zz_icmp_ge (tgt := 103) hx hb d_Mo_blocking_39 (by decide) ⟨by omega, by omega⟩ ⟨by omega, by omega⟩ (fun c39 => ?_) (fun c39 => ?_)
              · refine lv_iinc (v := iZ (((i : Int)) + 1)) (lv' := [(3, .int (iZ (((i : Int)) + 1))), (4, .int (iZ ((k : Int)))), (2, .int (iZ y)), (0, .ref b), (1, .int (iZ ((t : Int))))]) hx hb d_Mo_blocking_103 hl (k := 4) rfl (iZ_add _ _) (by decide) rfl (fun ls hl => ?_)
                refine lv_goto (tgt := 14) hx hb d_Mo_blocking_106 (by decide) ?_
                exact ih (i + 1) y (by omega) (by rw [hv, bjF, hv2]; rfl) hk2 ls (lv_sub hl [0, 2, 3, 4] rfl)
              · exfalso; omega
            | succ f2 ih2 =>
              intro k y hif2 hv2 hk2 hkk ls hl
              refine lv_iload hx hb d_Mo_blocking_27 (lv_at hl 0 rfl) ?_
              refine lv_iload_n hx hb d_Mo_blocking_29 rfl (lv_at hl 4 rfl) ?_
              refine lv_iconst (v := iZ 3) hx hb d_Mo_blocking_30 rfl ?_
              refine zz_imul hx hb d_Mo_blocking_31 ?_
              refine lv_aload_n hx hb d_Mo_blocking_32 rfl (lv_at hl 2 rfl) ?_
              refine fw_get (ci := 5) (v := .ref (ad 6)) (C := rMo) (T := fMo) (N := 26) hx hb hts iMo hown hK hP hmo rfl 13 (by decide) (hts _ t_521) (fun _ h9 => h9) rfl d_Mo_blocking_33 ?_
              refine lv_iload_n hx hb d_Mo_blocking_36 rfl (lv_at hl 4 rfl) ?_
              refine fw_iald hx hb hK hP qa6 (by decide) i rfl (by omega) d_Mo_blocking_37 ?_
              refine zz_iadd hx hb d_Mo_blocking_38 ?_
              refine zz_icmp_ge (tgt := 103) hx hb d_Mo_blocking_39 (by decide) ⟨by omega, by omega⟩ ⟨by omega, by omega⟩ (fun c39 => ?_) (fun c39 => ?_)
              · exfalso; omega
              · have h7 := ion k
                have h9 := ilo k
                have h5 := ice (nA N 7 k).toNat
                refine lv_aload_n hx hb d_Mo_blocking_42 rfl (lv_at hl 2 rfl) ?_
                refine fw_get (ci := 5) (v := .ref (ad 3)) (C := rMo) (T := fMo) (N := 26) hx hb hts iMo hown hK hP hmo rfl 10 (by decide) (hts _ t_518) (fun _ h9 => h9) rfl d_Mo_blocking_43 ?_
                refine lv_iload_n hx hb d_Mo_blocking_46 rfl (lv_at hl 4 rfl) ?_
                refine fw_iald hx hb hK hP qa3 (by decide) i rfl (by omega) d_Mo_blocking_47 ?_
                refine lv_aload_n hx hb d_Mo_blocking_48 rfl (lv_at hl 2 rfl) ?_
                refine fw_get (ci := 5) (v := .ref (ad 3)) (C := rMo) (T := fMo) (N := 26) hx hb hts iMo hown hK hP hmo rfl 10 (by decide) (hts _ t_518) (fun _ h9 => h9) rfl d_Mo_blocking_49 ?_
                refine lv_iload_n hx hb d_Mo_blocking_52 rfl (lv_at hl 3 rfl) ?_
                refine fw_iald hx hb hK hP qa3 (by decide) t rfl (by omega) d_Mo_blocking_53 ?_
                refine zz_icmp_ge (tgt := 97) hx hb d_Mo_blocking_54 (by decide) ⟨by omega, by omega⟩ ⟨by omega, by omega⟩ (fun c54 => ?_) (fun c54 => ?_)
                · refine lv_iinc (v := iZ (((k : Int)) + 1)) (lv' := [(4, .int (iZ (((k : Int)) + 1))), (2, .int (iZ y)), (0, .ref b), (1, .int (iZ ((t : Int)))), (3, .int (iZ ((i : Int))))]) hx hb d_Mo_blocking_97 hl (k := 0) rfl (iZ_add _ _) (by decide) rfl (fun ls hl => ?_)
                  refine lv_goto (tgt := 27) hx hb d_Mo_blocking_100 (by decide) ?_
                  exact ih2 (k + 1) y (by omega) (by rw [hv2, bjI, if_neg (fun q => by omega)]) (by omega) (by omega) ls (lv_sub hl [0, 1, 2, 3, 4] rfl)
                · refine lv_aload_n hx hb d_Mo_blocking_57 rfl (lv_at hl 2 rfl) ?_
                  refine fw_get (ci := 5) (v := .ref (ad 5)) (C := rMo) (T := fMo) (N := 26) hx hb hts iMo hown hK hP hmo rfl 12 (by decide) (hts _ t_520) (fun _ h9 => h9) rfl d_Mo_blocking_58 ?_
                  refine lv_aload_n hx hb d_Mo_blocking_61 rfl (lv_at hl 2 rfl) ?_
                  refine fw_get (ci := 5) (v := .ref (ad 7)) (C := rMo) (T := fMo) (N := 26) hx hb hts iMo hown hK hP hmo rfl 14 (by decide) (hts _ t_522) (fun _ h9 => h9) rfl d_Mo_blocking_62 ?_
                  refine lv_iload hx hb d_Mo_blocking_65 (lv_at hl 0 rfl) ?_
                  refine fw_iald hx hb hK hP qa7 (by decide) k rfl (by omega) d_Mo_blocking_67 ?_
                  refine fw_iald hx hb hK hP qa5 (by decide) (((nA N 7 k).toNat)) (by omega) (by omega) d_Mo_blocking_68 ?_
                  refine lv_aload_n hx hb d_Mo_blocking_69 rfl (lv_at hl 2 rfl) ?_
                  refine fw_get (ci := 5) (v := .ref (ad 3)) (C := rMo) (T := fMo) (N := 26) hx hb hts iMo hown hK hP hmo rfl 10 (by decide) (hts _ t_518) (fun _ h9 => h9) rfl d_Mo_blocking_70 ?_
                  refine lv_iload_n hx hb d_Mo_blocking_73 rfl (lv_at hl 3 rfl) ?_
                  refine fw_iald hx hb hK hP qa3 (by decide) t rfl (by omega) d_Mo_blocking_74 ?_
                  refine zz_icmp_lt (tgt := 97) hx hb d_Mo_blocking_75 (by decide) ⟨by omega, by omega⟩ ⟨by omega, by omega⟩ (fun c75 => ?_) (fun c75 => ?_)
                  · refine lv_iinc (v := iZ (((k : Int)) + 1)) (lv' := [(4, .int (iZ (((k : Int)) + 1))), (2, .int (iZ y)), (0, .ref b), (1, .int (iZ ((t : Int)))), (3, .int (iZ ((i : Int))))]) hx hb d_Mo_blocking_97 hl (k := 0) rfl (iZ_add _ _) (by decide) rfl (fun ls hl => ?_)
                    refine lv_goto (tgt := 27) hx hb d_Mo_blocking_100 (by decide) ?_
                    exact ih2 (k + 1) y (by omega) (by rw [hv2, bjI, if_neg (fun q => by omega)]) (by omega) (by omega) ls (lv_sub hl [0, 1, 2, 3, 4] rfl)
                  · refine lv_aload_n hx hb d_Mo_blocking_78 rfl (lv_at hl 2 rfl) ?_
                    refine fw_get (ci := 5) (v := .ref (ad 9)) (C := rMo) (T := fMo) (N := 26) hx hb hts iMo hown hK hP hmo rfl 16 (by decide) (hts _ t_524) (fun _ h9 => h9) rfl d_Mo_blocking_79 ?_
                    refine lv_iload hx hb d_Mo_blocking_82 (lv_at hl 0 rfl) ?_
                    refine fw_iald hx hb hK hP qa9 (by decide) k rfl (by omega) d_Mo_blocking_84 ?_
                    refine lv_iload_n hx hb d_Mo_blocking_85 rfl (lv_at hl 1 rfl) ?_
                    refine zz_icmp_le (tgt := 97) hx hb d_Mo_blocking_86 (by decide) ⟨by omega, by omega⟩ ⟨by omega, by omega⟩ (fun c86 => ?_) (fun c86 => ?_)
                    · refine lv_iinc (v := iZ (((k : Int)) + 1)) (lv' := [(4, .int (iZ (((k : Int)) + 1))), (2, .int (iZ y)), (0, .ref b), (1, .int (iZ ((t : Int)))), (3, .int (iZ ((i : Int))))]) hx hb d_Mo_blocking_97 hl (k := 0) rfl (iZ_add _ _) (by decide) rfl (fun ls hl => ?_)
                      refine lv_goto (tgt := 27) hx hb d_Mo_blocking_100 (by decide) ?_
                      exact ih2 (k + 1) y (by omega) (by rw [hv2, bjI, if_neg (fun q => by omega)]) (by omega) (by omega) ls (lv_sub hl [0, 1, 2, 3, 4] rfl)
                    · refine lv_aload_n hx hb d_Mo_blocking_89 rfl (lv_at hl 2 rfl) ?_
                      refine fw_get (ci := 5) (v := .ref (ad 9)) (C := rMo) (T := fMo) (N := 26) hx hb hts iMo hown hK hP hmo rfl 16 (by decide) (hts _ t_524) (fun _ h9 => h9) rfl d_Mo_blocking_90 ?_
                      refine lv_iload hx hb d_Mo_blocking_93 (lv_at hl 0 rfl) ?_
                      refine fw_iald hx hb hK hP qa9 (by decide) k rfl (by omega) d_Mo_blocking_95 ?_
                      refine lv_istore_n (lv' := [(2, .int (iZ ((nA N 9) k))), (4, .int (iZ ((k : Int)))), (0, .ref b), (1, .int (iZ ((t : Int)))), (3, .int (iZ ((i : Int))))]) hx hb d_Mo_blocking_96 rfl hl (by decide) rfl (fun ls hl => ?_)
                      refine lv_iinc (v := iZ (((k : Int)) + 1)) (lv' := [(4, .int (iZ (((k : Int)) + 1))), (2, .int (iZ ((nA N 9) k))), (0, .ref b), (1, .int (iZ ((t : Int)))), (3, .int (iZ ((i : Int))))]) hx hb d_Mo_blocking_97 hl (k := 1) rfl (iZ_add _ _) (by decide) rfl (fun ls hl => ?_)
                      refine lv_goto (tgt := 27) hx hb d_Mo_blocking_100 (by decide) ?_
                      exact ih2 (k + 1) ((nA N 9) k) (by omega) (by rw [hv2, bjI, if_pos ⟨by omega, by omega, by omega⟩]) (by omega) (by omega) ls (lv_sub hl [0, 1, 2, 3, 4] rfl)
          exact lp2 (nA N 6 i).toNat (i * 3) x (by omega) rfl hx2 (Nat.le_refl _) ls (lv_sub hl [0, 2, 3, 4, 1] rfl)
    exact lp (nTa N) 0 0 (by omega) rfl (by omega) ls (lv_sub hl [0, 1, 2, 3] rfl)
  · refine lv_iconst (v := iZ (-1)) hx hb d_Mo_blocking_8 rfl ?_
    exact ro_iret hx hb hr hlocks d_Mo_blocking_9 (congrArg iZ (by rw [bvM, if_pos (of_decide_eq_true c5)]))

theorem c_Mo_blockN (l : Launch) (g : GG) (w : fw) (b : Nat) (ad : Nat → Nat) (N : MoM) (tb : Int) (t : Nat) (hM : MoP g w b ad N) (hI : MoI N tb) (ht : t < nTa N) : RO l y_Mo_blocking w_Mo_blocking ({ frames := 1, cells := 0, slots := 0, locals := 21 }) g w [.ref b, .int (iZ (t : Int))] (.int (iZ (bjM N t))) := by
  have hi := hI.2.1
  have h := c_Mo_blocking l g w b ad N tb (t : Int) hM hI ⟨by omega, by omega⟩
  rw [bvM_in ht] at h
  exact h

set_option maxHeartbeats 4000000 in
set_option maxRecDepth 100000 in
theorem c_Mo_bound (l : Launch) (g : GG) (w : fw) (b : Nat) (ad : Nat → Nat) (N : MoM) (tb : Int) (v : Int) (hM : MoP g w b ad N) (hI : MoI N tb) (hr_0 : ir v) : RO l y_Mo_bound w_Mo_bound ({ frames := 2, cells := 0, slots := 0, locals := 45 }) g w [.ref b, .int (iZ v)] (.int (iZ (bwM N v))) := by
  refine ro_go (by decide) rfl (Nat.le_of_ble_eq_true rfl) ?_
  intro p e s m below meth c hx hb hr hml hown hts hlocks hK hP ls hl
  have hown : s.vm.findClass rMo = some m.cls := hown
  have hl : lv_has ls 5 [(0, .ref b), (1, .int (iZ v))] := hl
  have hI0 := hI
  have hM0 := hM
  obtain ⟨hmo, qa0, qa1, qa2, qa3, qa4, qa5, qa6, qa7, qa8, qa9, qa10, qa11, qa12, qa13, qa14, qa15, qa16, qa17, qa18, hinj⟩ := hM
  obtain ⟨itb, in6, iti, ila, ibu, ice, ion, ifr, ilo, ire, itk⟩ := hI
  obtain ⟨hr_0a, hr_0b⟩ := hr_0
  refine lv_aload_n hx hb d_Mo_bound_0 rfl (lv_at hl 0 rfl) ?_
  refine lv_iload_n hx hb d_Mo_bound_1 rfl (lv_at hl 1 rfl) ?_
  refine fw_ro (r := .int (bZ (decide (v < 0 ∨ (nTa N : Int) ≤ v)))) (va_runV (As := [.int (iZ v)]) (rest := []) ⟨hx, hb, hml, hown, hts⟩ (c_Mo_no l g w b ad N tb v hM0 hI0 ⟨by omega, by omega⟩) (cwV 1 hts (gdV k_Mo_no t_603 t_605 t_35 t_50) rfl rfl rfl (by decide +kernel) ⟨Nat.le_of_ble_eq_true rfl, Nat.le_of_ble_eq_true rfl⟩) ⟨roP_blind, fw_recv hK hP hmo rfl, roP_pre hK hP⟩ rfl rfl hl.1 rfl (lv_room (Nat.le_of_ble_eq_true rfl)) d_Mo_bound_2 ⟨by decide, by decide⟩) ?_
  refine zb_if_eq (tgt := 10) hx hb d_Mo_bound_5 (by decide) (fun c5 => ?_) (fun c5 => ?_)
  · have nc5 := of_decide_eq_false c5
    obtain ⟨t, et⟩ := Int.eq_ofNat_of_zero_le (show 0 ≤ v by omega)
    subst et
    have ht : t < nTa N := by omega
    obtain ⟨r0t, r1t, r2t, r3t, r4t, r6t, r10t, r12t, r16t⟩ := itk t ht
    have hbj : 0 ≤ bjM N t ∧ bjM N t ≤ 60 := bjF_rng N t ilo (nTa N) 0 0 (by omega)
    refine lv_iconst (v := iZ 1) hx hb d_Mo_bound_10 rfl ?_
    refine lv_istore_n (lv' := [(2, .int (iZ 1)), (0, .ref b), (1, .int (iZ ((t : Int))))]) hx hb d_Mo_bound_11 rfl hl (by decide) rfl (fun ls hl => ?_)
    have lp : ∀ (f r : Nat), r + f = (nA N 0 t).toNat + 1 → (bnM N t = bnF N t f (r : Int)) → (1 ≤ r) → ∀ ls : Array Slot, lv_has ls 5 [(2, .int (iZ ((r : Int)))), (0, .ref b), (1, .int (iZ ((t : Int))))] → W p l e ({ frames := 2, cells := 0, slots := 0, locals := 45 }) s m ([.ref b, .int (iZ (t : Int))] : List Value).toArray below meth c s.heap [] 0 0 (MQ below (k2_QcV (.int (iZ (bwM N (t : Int))))) ([.ref b, .int (iZ (t : Int))] : List Value).toArray s 0 0 (fun _ => False)) (F0 m 12 ls []) := by
      intro f
      induction f with
      | zero =>
        intro r hif hv h1r ls hl
        refine lv_iload_n hx hb d_Mo_bound_12 rfl (lv_at hl 0 rfl) ?_
        refine lv_aload_n hx hb d_Mo_bound_13 rfl (lv_at hl 1 rfl) ?_
        refine fw_get (ci := 5) (v := .ref (ad 0)) (C := rMo) (T := fMo) (N := 26) hx hb hts iMo hown hK hP hmo rfl 7 (by decide) (hts _ t_515) (fun _ h9 => h9) rfl d_Mo_bound_14 ?_
        refine lv_iload_n hx hb d_Mo_bound_17 rfl (lv_at hl 2 rfl) ?_
        refine fw_iald hx hb hK hP qa0 (by decide) t rfl (by omega) d_Mo_bound_18 ?_
        refine zz_icmp_gt (tgt := 118) hx hb d_Mo_bound_19 (by decide) ⟨by omega, by omega⟩ ⟨by omega, by omega⟩ (fun c19 => ?_) (fun c19 => ?_)
        · refine lv_bipush (v := iZ (-3)) hx hb d_Mo_bound_118 (by decide) ?_
          exact ro_iret hx hb hr hlocks d_Mo_bound_120 (congrArg iZ (by rw [bwM_in ht, hv]; rfl))
        · exfalso; omega
      | succ f ih =>
        intro r hif hv h1r ls hl
        refine lv_iload_n hx hb d_Mo_bound_12 rfl (lv_at hl 0 rfl) ?_
        refine lv_aload_n hx hb d_Mo_bound_13 rfl (lv_at hl 1 rfl) ?_
        refine fw_get (ci := 5) (v := .ref (ad 0)) (C := rMo) (T := fMo) (N := 26) hx hb hts iMo hown hK hP hmo rfl 7 (by decide) (hts _ t_515) (fun _ h9 => h9) rfl d_Mo_bound_14 ?_
        refine lv_iload_n hx hb d_Mo_bound_17 rfl (lv_at hl 2 rfl) ?_
        refine fw_iald hx hb hK hP qa0 (by decide) t rfl (by omega) d_Mo_bound_18 ?_
        refine zz_icmp_gt (tgt := 118) hx hb d_Mo_bound_19 (by decide) ⟨by omega, by omega⟩ ⟨by omega, by omega⟩ (fun c19 => ?_) (fun c19 => ?_)
        · exfalso; omega
        · refine lv_aload_n hx hb d_Mo_bound_22 rfl (lv_at hl 1 rfl) ?_
          refine fw_get (ci := 5) (v := .ref (ad 1)) (C := rMo) (T := fMo) (N := 26) hx hb hts iMo hown hK hP hmo rfl 8 (by decide) (hts _ t_516) (fun _ h9 => h9) rfl d_Mo_bound_23 ?_
          refine lv_iload_n hx hb d_Mo_bound_26 rfl (lv_at hl 2 rfl) ?_
          refine fw_iald hx hb hK hP qa1 (by decide) t rfl (by omega) d_Mo_bound_27 ?_
          refine lv_aload_n hx hb d_Mo_bound_28 rfl (lv_at hl 1 rfl) ?_
          refine lv_iload_n hx hb d_Mo_bound_29 rfl (lv_at hl 2 rfl) ?_
          refine fw_ro (r := .int (iZ (bjM N t))) (va_runV (As := [.int (iZ ((t : Int)))]) (rest := [.int (iZ ((nA N 1) t))]) ⟨hx, hb, hml, hown, hts⟩ (c_Mo_blockN l g w b ad N tb t hM0 hI0 (by omega)) (cwV 1 hts (gdV k_Mo_blocking t_671 t_664 t_665 t_50) rfl rfl rfl (by decide +kernel) ⟨Nat.le_of_ble_eq_true rfl, Nat.le_of_ble_eq_true rfl⟩) ⟨roP_blind, fw_recv hK hP hmo rfl, roP_pre hK hP⟩ rfl rfl hl.1 rfl (lv_room (Nat.le_of_ble_eq_true rfl)) d_Mo_bound_30 ⟨by decide, by decide⟩) ?_
          refine zz_iadd hx hb d_Mo_bound_33 ?_
          refine lv_istore_n (lv' := [(3, .int (iZ (((nA N 1) t) + (bjM N t)))), (2, .int (iZ ((r : Int)))), (0, .ref b), (1, .int (iZ ((t : Int))))]) hx hb d_Mo_bound_34 rfl hl (by decide) rfl (fun ls hl => ?_)
          refine lv_iconst (v := iZ 0) hx hb d_Mo_bound_35 rfl ?_
          refine lv_istore (lv' := [(4, .int (iZ 0)), (3, .int (iZ (((nA N 1) t) + (bjM N t)))), (2, .int (iZ ((r : Int)))), (0, .ref b), (1, .int (iZ ((t : Int))))]) hx hb d_Mo_bound_36 hl (by decide) rfl (fun ls hl => ?_)
          have lp2 : ∀ (f2 j : Nat) (x : Int), j + f2 = nTa N → (bnI N t (r : Int) (nTa N) 0 (nA N 1 t + bjM N t) = bnI N t (r : Int) f2 j x) → (0 ≤ x ∧ x ≤ 120 + 3600 * (j : Int)) → ∀ ls : Array Slot, lv_has ls 5 [(4, .int (iZ ((j : Int)))), (3, .int (iZ x)), (0, .ref b), (1, .int (iZ ((t : Int)))), (2, .int (iZ ((r : Int))))] → W p l e ({ frames := 2, cells := 0, slots := 0, locals := 45 }) s m ([.ref b, .int (iZ (t : Int))] : List Value).toArray below meth c s.heap [] 0 0 (MQ below (k2_QcV (.int (iZ (bwM N (t : Int))))) ([.ref b, .int (iZ (t : Int))] : List Value).toArray s 0 0 (fun _ => False)) (F0 m 38 ls []) := by
            intro f2
            induction f2 with
            | zero =>
              intro j x hif2 hv2 hk2 ls hl
              refine lv_iload hx hb d_Mo_bound_38 (lv_at hl 0 rfl) ?_
              refine lv_aload_n hx hb d_Mo_bound_40 rfl (lv_at hl 2 rfl) ?_
              refine fw_get (ci := 5) (v := .int (iZ ((nTa N : Int)))) (C := rMo) (T := fMo) (N := 26) hx hb hts iMo hown hK hP hmo rfl 0 (by decide) (hts _ t_508) (fun _ h9 => h9) rfl d_Mo_bound_41 ?_
              refine zz_icmp_ge (tgt := 105) hx hb d_Mo_bound_44 (by decide) ⟨by omega, by omega⟩ ⟨by omega, by omega⟩ (fun c44 => ?_) (fun c44 => ?_)
              · refine lv_iload_n hx hb d_Mo_bound_105 rfl (lv_at hl 1 rfl) ?_
                refine lv_iload_n hx hb d_Mo_bound_106 rfl (lv_at hl 4 rfl) ?_
                refine zz_icmp_ne (tgt := 112) hx hb d_Mo_bound_107 (by decide) ⟨by omega, by omega⟩ ⟨by omega, by omega⟩ (fun c107 => ?_) (fun c107 => ?_)
                · refine lv_iinc (v := iZ (((r : Int)) + 1)) (lv' := [(2, .int (iZ (((r : Int)) + 1))), (4, .int (iZ ((j : Int)))), (3, .int (iZ x)), (0, .ref b), (1, .int (iZ ((t : Int))))]) hx hb d_Mo_bound_112 hl (k := 4) rfl (iZ_add _ _) (by decide) rfl (fun ls hl => ?_)
                  refine lv_goto (tgt := 12) hx hb d_Mo_bound_115 (by decide) ?_
                  exact ih (r + 1) (by omega) (by rw [hv, bnF, if_neg (by rw [hv2]; exact c107)]; rfl) (by omega) ls (lv_sub hl [0, 3, 4] rfl)
                · refine lv_iload_n hx hb d_Mo_bound_110 rfl (lv_at hl 4 rfl) ?_
                  exact ro_iret hx hb hr hlocks d_Mo_bound_111 (congrArg iZ (by rw [bwM_in ht, hv, bnF, if_pos (by rw [hv2]; exact c107)]))
              · exfalso; omega
            | succ f2 ih2 =>
              intro j x hif2 hv2 hk2 ls hl
              refine lv_iload hx hb d_Mo_bound_38 (lv_at hl 0 rfl) ?_
              refine lv_aload_n hx hb d_Mo_bound_40 rfl (lv_at hl 2 rfl) ?_
              refine fw_get (ci := 5) (v := .int (iZ ((nTa N : Int)))) (C := rMo) (T := fMo) (N := 26) hx hb hts iMo hown hK hP hmo rfl 0 (by decide) (hts _ t_508) (fun _ h9 => h9) rfl d_Mo_bound_41 ?_
              refine zz_icmp_ge (tgt := 105) hx hb d_Mo_bound_44 (by decide) ⟨by omega, by omega⟩ ⟨by omega, by omega⟩ (fun c44 => ?_) (fun c44 => ?_)
              · exfalso; omega
              · obtain ⟨r0j, r1j, r2j, r3j, r4j, r6j, r10j, r12j, r16j⟩ := itk j (by omega)
                refine lv_iload hx hb d_Mo_bound_47 (lv_at hl 0 rfl) ?_
                refine lv_iload_n hx hb d_Mo_bound_49 rfl (lv_at hl 3 rfl) ?_
                refine zz_icmp_eq (tgt := 99) hx hb d_Mo_bound_50 (by decide) ⟨by omega, by omega⟩ ⟨by omega, by omega⟩ (fun c50 => ?_) (fun c50 => ?_)
                · refine lv_iinc (v := iZ (((j : Int)) + 1)) (lv' := [(4, .int (iZ (((j : Int)) + 1))), (3, .int (iZ x)), (0, .ref b), (1, .int (iZ ((t : Int)))), (2, .int (iZ ((r : Int))))]) hx hb d_Mo_bound_99 hl (k := 0) rfl (iZ_add _ _) (by decide) rfl (fun ls hl => ?_)
                  refine lv_goto (tgt := 38) hx hb d_Mo_bound_102 (by decide) ?_
                  exact ih2 (j + 1) x (by omega) (by rw [hv2, bnI, if_neg (fun q => by omega)]) (by omega) ls (lv_sub hl [0, 1, 2, 3, 4] rfl)
                · refine lv_aload_n hx hb d_Mo_bound_53 rfl (lv_at hl 2 rfl) ?_
                  refine fw_get (ci := 5) (v := .ref (ad 3)) (C := rMo) (T := fMo) (N := 26) hx hb hts iMo hown hK hP hmo rfl 10 (by decide) (hts _ t_518) (fun _ h9 => h9) rfl d_Mo_bound_54 ?_
                  refine lv_iload hx hb d_Mo_bound_57 (lv_at hl 0 rfl) ?_
                  refine fw_iald hx hb hK hP qa3 (by decide) j rfl (by omega) d_Mo_bound_59 ?_
                  refine lv_aload_n hx hb d_Mo_bound_60 rfl (lv_at hl 2 rfl) ?_
                  refine fw_get (ci := 5) (v := .ref (ad 3)) (C := rMo) (T := fMo) (N := 26) hx hb hts iMo hown hK hP hmo rfl 10 (by decide) (hts _ t_518) (fun _ h9 => h9) rfl d_Mo_bound_61 ?_
                  refine lv_iload_n hx hb d_Mo_bound_64 rfl (lv_at hl 3 rfl) ?_
                  refine fw_iald hx hb hK hP qa3 (by decide) t rfl (by omega) d_Mo_bound_65 ?_
                  refine zz_icmp_lt (tgt := 99) hx hb d_Mo_bound_66 (by decide) ⟨by omega, by omega⟩ ⟨by omega, by omega⟩ (fun c66 => ?_) (fun c66 => ?_)
                  · refine lv_iinc (v := iZ (((j : Int)) + 1)) (lv' := [(4, .int (iZ (((j : Int)) + 1))), (3, .int (iZ x)), (0, .ref b), (1, .int (iZ ((t : Int)))), (2, .int (iZ ((r : Int))))]) hx hb d_Mo_bound_99 hl (k := 0) rfl (iZ_add _ _) (by decide) rfl (fun ls hl => ?_)
                    refine lv_goto (tgt := 38) hx hb d_Mo_bound_102 (by decide) ?_
                    exact ih2 (j + 1) x (by omega) (by rw [hv2, bnI, if_neg (fun q => by omega)]) (by omega) ls (lv_sub hl [0, 1, 2, 3, 4] rfl)
                  · refine lv_iload_n hx hb d_Mo_bound_69 rfl (lv_at hl 1 rfl) ?_
                    refine lv_aload_n hx hb d_Mo_bound_70 rfl (lv_at hl 2 rfl) ?_
                    refine fw_get (ci := 5) (v := .ref (ad 1)) (C := rMo) (T := fMo) (N := 26) hx hb hts iMo hown hK hP hmo rfl 8 (by decide) (hts _ t_516) (fun _ h9 => h9) rfl d_Mo_bound_71 ?_
                    refine lv_iload hx hb d_Mo_bound_74 (lv_at hl 0 rfl) ?_
                    refine fw_iald hx hb hK hP qa1 (by decide) j rfl (by omega) d_Mo_bound_76 ?_
                    refine lv_iload_n hx hb d_Mo_bound_77 rfl (lv_at hl 4 rfl) ?_
                    refine lv_aload_n hx hb d_Mo_bound_78 rfl (lv_at hl 2 rfl) ?_
                    refine fw_get (ci := 5) (v := .ref (ad 0)) (C := rMo) (T := fMo) (N := 26) hx hb hts iMo hown hK hP hmo rfl 7 (by decide) (hts _ t_515) (fun _ h9 => h9) rfl d_Mo_bound_79 ?_
                    refine lv_iload hx hb d_Mo_bound_82 (lv_at hl 0 rfl) ?_
                    refine fw_iald hx hb hK hP qa0 (by decide) j rfl (by omega) d_Mo_bound_84 ?_
                    refine zz_iadd hx hb d_Mo_bound_85 ?_
                    refine lv_iconst (v := iZ 1) hx hb d_Mo_bound_86 rfl ?_
                    refine zz_isub hx hb d_Mo_bound_87 ?_
                    refine lv_aload_n hx hb d_Mo_bound_88 rfl (lv_at hl 2 rfl) ?_
                    refine fw_get (ci := 5) (v := .ref (ad 0)) (C := rMo) (T := fMo) (N := 26) hx hb hts iMo hown hK hP hmo rfl 7 (by decide) (hts _ t_515) (fun _ h9 => h9) rfl d_Mo_bound_89 ?_
                    refine lv_iload hx hb d_Mo_bound_92 (lv_at hl 0 rfl) ?_
                    refine fw_iald hx hb hK hP qa0 (by decide) j rfl (by omega) d_Mo_bound_94 ?_
                    refine zz_idiv hx hb d_Mo_bound_95 (by omega) (by omega) (by omega) (by omega) ?_
                    have hmu := mul_rng (nA N 1 j) (nA N 0 j) (r : Int) r1j r0j ⟨by omega, by omega⟩
                    refine zz_imul hx hb d_Mo_bound_96 ?_
                    refine zz_iadd hx hb d_Mo_bound_97 ?_
                    refine lv_istore_n (lv' := [(3, .int (iZ (x + (((nA N 1) j) * (((((r : Int)) + ((nA N 0) j)) - 1) / ((nA N 0) j)))))), (4, .int (iZ ((j : Int)))), (0, .ref b), (1, .int (iZ ((t : Int)))), (2, .int (iZ ((r : Int))))]) hx hb d_Mo_bound_98 rfl hl (by decide) rfl (fun ls hl => ?_)
                    refine lv_iinc (v := iZ (((j : Int)) + 1)) (lv' := [(4, .int (iZ (((j : Int)) + 1))), (3, .int (iZ (x + (((nA N 1) j) * (((((r : Int)) + ((nA N 0) j)) - 1) / ((nA N 0) j)))))), (0, .ref b), (1, .int (iZ ((t : Int)))), (2, .int (iZ ((r : Int))))]) hx hb d_Mo_bound_99 hl (k := 1) rfl (iZ_add _ _) (by decide) rfl (fun ls hl => ?_)
                    refine lv_goto (tgt := 38) hx hb d_Mo_bound_102 (by decide) ?_
                    exact ih2 (j + 1) (x + (((nA N 1) j) * (((((r : Int)) + ((nA N 0) j)) - 1) / ((nA N 0) j)))) (by omega) (by rw [hv2, bnI, if_pos ⟨by omega, by omega⟩]) (by omega) ls (lv_sub hl [0, 1, 2, 3, 4] rfl)
          exact lp2 (nTa N) 0 (nA N 1 t + bjM N t) (by omega) rfl (by omega) ls (lv_sub hl [0, 1, 3, 4, 2] rfl)
    exact lp _ 1 (by omega) rfl (by omega) ls (lv_sub hl [0, 1, 2] rfl)
  · refine lv_iconst (v := iZ (-1)) hx hb d_Mo_bound_8 rfl ?_
    exact ro_iret hx hb hr hlocks d_Mo_bound_9 (congrArg iZ (by rw [bwM, if_pos (of_decide_eq_true c5)]))

theorem c_Mo_boundN (l : Launch) (g : GG) (w : fw) (b : Nat) (ad : Nat → Nat) (N : MoM) (tb : Int) (t : Nat) (hM : MoP g w b ad N) (hI : MoI N tb) (ht : t < nTa N) : RO l y_Mo_bound w_Mo_bound ({ frames := 2, cells := 0, slots := 0, locals := 45 }) g w [.ref b, .int (iZ (t : Int))] (.int (iZ (bnM N t))) := by
  have hi := hI.2.1
  have h := c_Mo_bound l g w b ad N tb (t : Int) hM hI ⟨by omega, by omega⟩
  rw [bwM_in ht] at h
  exact h

set_option maxHeartbeats 4000000 in
set_option maxRecDepth 100000 in
theorem c_Mo_tell (l : Launch) (g : GG) (w : fw) (b : Nat) (ad : Nat → Nat) (N : MoM) (tb : Int) (v wh : Int) (hM : MoP g w b ad N) (hI : MoI N tb) (hr_0 : ir v) (hr_1 : ir wh) : RO l y_Mo_tell w_Mo_tell ({ frames := 3, cells := 0, slots := 0, locals := 67 }) g w [.ref b, .int (iZ v), .int (iZ wh)] (.int (iZ (tnM N v wh))) := by
  refine ro_go (by decide) rfl (Nat.le_of_ble_eq_true rfl) ?_
  intro p e s m below meth c hx hb hr hml hown hts hlocks hK hP ls hl
  have hown : s.vm.findClass rMo = some m.cls := hown
  have hl : lv_has ls 3 [(0, .ref b), (1, .int (iZ v)), (2, .int (iZ wh))] := hl
  have hI0 := hI
  have hM0 := hM
  obtain ⟨hmo, qa0, qa1, qa2, qa3, qa4, qa5, qa6, qa7, qa8, qa9, qa10, qa11, qa12, qa13, qa14, qa15, qa16, qa17, qa18, hinj⟩ := hM
  obtain ⟨itb, in6, iti, ila, ibu, ice, ion, ifr, ilo, ire, itk⟩ := hI
  obtain ⟨hr_0a, hr_0b⟩ := hr_0
  obtain ⟨hr_1a, hr_1b⟩ := hr_1
  refine lv_aload_n hx hb d_Mo_tell_0 rfl (lv_at hl 0 rfl) ?_
  refine lv_iload_n hx hb d_Mo_tell_1 rfl (lv_at hl 1 rfl) ?_
  refine fw_ro (r := .int (bZ (decide (v < 0 ∨ (nTa N : Int) ≤ v)))) (va_runV (As := [.int (iZ v)]) (rest := []) ⟨hx, hb, hml, hown, hts⟩ (c_Mo_no l g w b ad N tb v hM0 hI0 ⟨by omega, by omega⟩) (cwV 1 hts (gdV k_Mo_no t_603 t_605 t_35 t_50) rfl rfl rfl (by decide +kernel) ⟨Nat.le_of_ble_eq_true rfl, Nat.le_of_ble_eq_true rfl⟩) ⟨roP_blind, fw_recv hK hP hmo rfl, roP_pre hK hP⟩ rfl rfl hl.1 rfl (lv_room (Nat.le_of_ble_eq_true rfl)) d_Mo_tell_2 ⟨by decide, by decide⟩) ?_
  refine zb_if_ne (tgt := 19) hx hb d_Mo_tell_5 (by decide) (fun c5 => ?_) (fun c5 => ?_)
  · refine lv_iconst (v := iZ (-1)) hx hb d_Mo_tell_19 rfl ?_
    exact ro_iret hx hb hr hlocks d_Mo_tell_20 (congrArg iZ (by rw [tnM, if_pos (Or.inl (of_decide_eq_true c5))]))
  · refine lv_aload_n hx hb d_Mo_tell_8 rfl (lv_at hl 0 rfl) ?_
    refine lv_iload_n hx hb d_Mo_tell_9 rfl (lv_at hl 2 rfl) ?_
    refine lv_iconst (v := iZ 0) hx hb d_Mo_tell_10 rfl ?_
    refine lv_bipush (v := iZ 6) hx hb d_Mo_tell_11 (by decide) ?_
    refine fw_ro (r := .int (bZ (decide (wh < 0 ∨ 6 < wh)))) (va_runV (As := [.int (iZ wh), .int (iZ 0), .int (iZ 6)]) (rest := []) ⟨hx, hb, hml, hown, hts⟩ (c_Mo_out l g w b ad N tb wh 0 6 hM0 ⟨by omega, by omega⟩ ⟨by omega, by omega⟩ ⟨by omega, by omega⟩) (cwV 3 hts (gdV k_Mo_out t_591 t_593 t_34 t_50) rfl rfl rfl (by decide +kernel) ⟨Nat.le_of_ble_eq_true rfl, Nat.le_of_ble_eq_true rfl⟩) ⟨roP_blind, fw_recv hK hP hmo rfl, roP_pre hK hP⟩ rfl rfl hl.1 rfl (lv_room (Nat.le_of_ble_eq_true rfl)) d_Mo_tell_13 ⟨by decide, by decide⟩) ?_
    refine zb_if_eq (tgt := 21) hx hb d_Mo_tell_16 (by decide) (fun c16 => ?_) (fun c16 => ?_)
    · have nc5 := of_decide_eq_false c5
      obtain ⟨t, et⟩ := Int.eq_ofNat_of_zero_le (show 0 ≤ v by omega)
      subst et
      have ht : t < nTa N := by omega
      obtain ⟨r0t, r1t, r2t, r3t, r4t, r6t, r10t, r12t, r16t⟩ := itk t ht
      have n16 := of_decide_eq_false c16
      have nz : ¬ (((t : Int) < 0 ∨ (nTa N : Int) ≤ (t : Int)) ∨ (wh < 0 ∨ 6 < wh)) := by omega
      refine lv_iload_n hx hb d_Mo_tell_21 rfl (lv_at hl 2 rfl) ?_
      refine zz_if_ne (tgt := 32) hx hb d_Mo_tell_22 (by decide) ⟨by omega, by omega⟩ (fun c22 => ?_) (fun c22 => ?_)
      · refine lv_iload_n hx hb d_Mo_tell_32 rfl (lv_at hl 2 rfl) ?_
        refine lv_iconst (v := iZ 1) hx hb d_Mo_tell_33 rfl ?_
        refine zz_icmp_ne (tgt := 44) hx hb d_Mo_tell_34 (by decide) ⟨by omega, by omega⟩ ⟨by omega, by omega⟩ (fun c34 => ?_) (fun c34 => ?_)
        · refine lv_iload_n hx hb d_Mo_tell_44 rfl (lv_at hl 2 rfl) ?_
          refine lv_iconst (v := iZ 2) hx hb d_Mo_tell_45 rfl ?_
          refine zz_icmp_ne (tgt := 56) hx hb d_Mo_tell_46 (by decide) ⟨by omega, by omega⟩ ⟨by omega, by omega⟩ (fun c46 => ?_) (fun c46 => ?_)
          · refine lv_iload_n hx hb d_Mo_tell_56 rfl (lv_at hl 2 rfl) ?_
            refine lv_iconst (v := iZ 3) hx hb d_Mo_tell_57 rfl ?_
            refine zz_icmp_ne (tgt := 68) hx hb d_Mo_tell_58 (by decide) ⟨by omega, by omega⟩ ⟨by omega, by omega⟩ (fun c58 => ?_) (fun c58 => ?_)
            · refine lv_aload_n hx hb d_Mo_tell_68 rfl (lv_at hl 0 rfl) ?_
              refine fw_get (ci := 5) (v := .ref (ad 10)) (C := rMo) (T := fMo) (N := 26) hx hb hts iMo hown hK hP hmo rfl 17 (by decide) (hts _ t_525) (fun _ h9 => h9) rfl d_Mo_tell_69 ?_
              refine lv_iload_n hx hb d_Mo_tell_72 rfl (lv_at hl 1 rfl) ?_
              refine fw_iald hx hb hK hP qa10 (by decide) t rfl (by omega) d_Mo_tell_73 ?_
              refine zz_if_ne (tgt := 80) hx hb d_Mo_tell_74 (by decide) ⟨by omega, by omega⟩ (fun c74 => ?_) (fun c74 => ?_)
              · refine lv_iload_n hx hb d_Mo_tell_80 rfl (lv_at hl 2 rfl) ?_
                refine lv_iconst (v := iZ 4) hx hb d_Mo_tell_81 rfl ?_
                refine zz_icmp_ne (tgt := 94) hx hb d_Mo_tell_82 (by decide) ⟨by omega, by omega⟩ ⟨by omega, by omega⟩ (fun c82 => ?_) (fun c82 => ?_)
                · refine lv_iload_n hx hb d_Mo_tell_94 rfl (lv_at hl 2 rfl) ?_
                  refine lv_iconst (v := iZ 5) hx hb d_Mo_tell_95 rfl ?_
                  refine zz_icmp_ne (tgt := 107) hx hb d_Mo_tell_96 (by decide) ⟨by omega, by omega⟩ ⟨by omega, by omega⟩ (fun c96 => ?_) (fun c96 => ?_)
                  · refine lv_aload_n hx hb d_Mo_tell_107 rfl (lv_at hl 0 rfl) ?_
                    refine fw_get (ci := 5) (v := .ref (ad 11)) (C := rMo) (T := fMo) (N := 26) hx hb hts iMo hown hK hP hmo rfl 18 (by decide) (hts _ t_526) (fun _ h9 => h9) rfl d_Mo_tell_108 ?_
                    refine lv_iload_n hx hb d_Mo_tell_111 rfl (lv_at hl 1 rfl) ?_
                    refine lv_bipush (v := iZ 8) hx hb d_Mo_tell_112 (by decide) ?_
                    refine zz_imul hx hb d_Mo_tell_114 ?_
                    refine fw_iald hx hb hK hP qa11 (by decide) ((t * 8)) (by omega) (by omega) d_Mo_tell_115 ?_
                    exact ro_iret hx hb hr hlocks d_Mo_tell_116 (congrArg iZ (by rw [tnM, if_neg nz, Int.toNat_natCast, tnN, if_neg c22, if_neg c34, if_neg c46, if_neg c58, if_neg c74, if_neg c82, if_neg c96]))
                  · refine lv_aload_n hx hb d_Mo_tell_99 rfl (lv_at hl 0 rfl) ?_
                    refine lv_iload_n hx hb d_Mo_tell_100 rfl (lv_at hl 1 rfl) ?_
                    refine fw_ro (r := .int (iZ (anM N t))) (va_runV (As := [.int (iZ ((t : Int)))]) (rest := []) ⟨hx, hb, hml, hown, hts⟩ (c_Mo_active l g w b ad N tb t hM0 hI0 (by omega)) (cwV 1 hts (gdV k_Mo_active t_639 t_641 t_41 t_50) rfl rfl rfl (by decide +kernel) ⟨Nat.le_of_ble_eq_true rfl, Nat.le_of_ble_eq_true rfl⟩) ⟨roP_blind, fw_recv hK hP hmo rfl, roP_pre hK hP⟩ rfl rfl hl.1 rfl (lv_room (Nat.le_of_ble_eq_true rfl)) d_Mo_tell_101 ⟨by decide, by decide⟩) ?_
                    refine lv_goto (tgt := 116) hx hb d_Mo_tell_104 (by decide) ?_
                    exact ro_iret hx hb hr hlocks d_Mo_tell_116 (congrArg iZ (by rw [tnM, if_neg nz, Int.toNat_natCast, tnN, if_neg c22, if_neg c34, if_neg c46, if_neg c58, if_neg c74, if_neg c82, if_pos c96]))
                · refine lv_aload_n hx hb d_Mo_tell_85 rfl (lv_at hl 0 rfl) ?_
                  refine fw_get (ci := 5) (v := .ref (ad 12)) (C := rMo) (T := fMo) (N := 26) hx hb hts iMo hown hK hP hmo rfl 19 (by decide) (hts _ t_527) (fun _ h9 => h9) rfl d_Mo_tell_86 ?_
                  refine lv_iload_n hx hb d_Mo_tell_89 rfl (lv_at hl 1 rfl) ?_
                  refine fw_iald hx hb hK hP qa12 (by decide) t rfl (by omega) d_Mo_tell_90 ?_
                  refine lv_goto (tgt := 116) hx hb d_Mo_tell_91 (by decide) ?_
                  exact ro_iret hx hb hr hlocks d_Mo_tell_116 (congrArg iZ (by rw [tnM, if_neg nz, Int.toNat_natCast, tnN, if_neg c22, if_neg c34, if_neg c46, if_neg c58, if_neg c74, if_pos c82]))
              · refine lv_bipush (v := iZ (-3)) hx hb d_Mo_tell_77 (by decide) ?_
                exact ro_iret hx hb hr hlocks d_Mo_tell_79 (congrArg iZ (by rw [tnM, if_neg nz, Int.toNat_natCast, tnN, if_neg c22, if_neg c34, if_neg c46, if_neg c58, if_pos c74]))
            · refine lv_aload_n hx hb d_Mo_tell_61 rfl (lv_at hl 0 rfl) ?_
              refine fw_get (ci := 5) (v := .ref (ad 16)) (C := rMo) (T := fMo) (N := 26) hx hb hts iMo hown hK hP hmo rfl 23 (by decide) (hts _ t_531) (fun _ h9 => h9) rfl d_Mo_tell_62 ?_
              refine lv_iload_n hx hb d_Mo_tell_65 rfl (lv_at hl 1 rfl) ?_
              refine fw_iald hx hb hK hP qa16 (by decide) t rfl (by omega) d_Mo_tell_66 ?_
              exact ro_iret hx hb hr hlocks d_Mo_tell_67 (congrArg iZ (by rw [tnM, if_neg nz, Int.toNat_natCast, tnN, if_neg c22, if_neg c34, if_neg c46, if_pos c58]))
          · refine lv_aload_n hx hb d_Mo_tell_49 rfl (lv_at hl 0 rfl) ?_
            refine fw_get (ci := 5) (v := .ref (ad 15)) (C := rMo) (T := fMo) (N := 26) hx hb hts iMo hown hK hP hmo rfl 22 (by decide) (hts _ t_530) (fun _ h9 => h9) rfl d_Mo_tell_50 ?_
            refine lv_iload_n hx hb d_Mo_tell_53 rfl (lv_at hl 1 rfl) ?_
            refine fw_iald hx hb hK hP qa15 (by decide) t rfl (by omega) d_Mo_tell_54 ?_
            exact ro_iret hx hb hr hlocks d_Mo_tell_55 (congrArg iZ (by rw [tnM, if_neg nz, Int.toNat_natCast, tnN, if_neg c22, if_neg c34, if_pos c46]))
        · refine lv_aload_n hx hb d_Mo_tell_37 rfl (lv_at hl 0 rfl) ?_
          refine fw_get (ci := 5) (v := .ref (ad 14)) (C := rMo) (T := fMo) (N := 26) hx hb hts iMo hown hK hP hmo rfl 21 (by decide) (hts _ t_529) (fun _ h9 => h9) rfl d_Mo_tell_38 ?_
          refine lv_iload_n hx hb d_Mo_tell_41 rfl (lv_at hl 1 rfl) ?_
          refine fw_iald hx hb hK hP qa14 (by decide) t rfl (by omega) d_Mo_tell_42 ?_
          exact ro_iret hx hb hr hlocks d_Mo_tell_43 (congrArg iZ (by rw [tnM, if_neg nz, Int.toNat_natCast, tnN, if_neg c22, if_pos c34]))
      · refine lv_aload_n hx hb d_Mo_tell_25 rfl (lv_at hl 0 rfl) ?_
        refine fw_get (ci := 5) (v := .ref (ad 13)) (C := rMo) (T := fMo) (N := 26) hx hb hts iMo hown hK hP hmo rfl 20 (by decide) (hts _ t_528) (fun _ h9 => h9) rfl d_Mo_tell_26 ?_
        refine lv_iload_n hx hb d_Mo_tell_29 rfl (lv_at hl 1 rfl) ?_
        refine fw_iald hx hb hK hP qa13 (by decide) t rfl (by omega) d_Mo_tell_30 ?_
        exact ro_iret hx hb hr hlocks d_Mo_tell_31 (congrArg iZ (by rw [tnM, if_neg nz, Int.toNat_natCast, tnN, if_pos c22]))
    · refine lv_iconst (v := iZ (-1)) hx hb d_Mo_tell_19 rfl ?_
      exact ro_iret hx hb hr hlocks d_Mo_tell_20 (congrArg iZ (by rw [tnM, if_pos (Or.inr (of_decide_eq_true c16))]))

set_option maxHeartbeats 4000000 in
set_option maxRecDepth 100000 in
theorem c_Mo_holder (l : Launch) (g : GG) (w : fw) (b : Nat) (ad : Nat → Nat) (N : MoM) (tb : Int) (ob : Int) (hM : MoP g w b ad N) (hI : MoI N tb) (hr_0 : ir ob) : RO l y_Mo_holder w_Mo_holder ({ frames := 2, cells := 0, slots := 0, locals := 45 }) g w [.ref b, .int (iZ ob)] (.int (iZ (hnM N ob))) := by
  refine ro_go (by decide) rfl (Nat.le_of_ble_eq_true rfl) ?_
  intro p e s m below meth c hx hb hr hml hown hts hlocks hK hP ls hl
  have hown : s.vm.findClass rMo = some m.cls := hown
  have hl : lv_has ls 3 [(0, .ref b), (1, .int (iZ ob))] := hl
  have hI0 := hI
  have hM0 := hM
  obtain ⟨hmo, qa0, qa1, qa2, qa3, qa4, qa5, qa6, qa7, qa8, qa9, qa10, qa11, qa12, qa13, qa14, qa15, qa16, qa17, qa18, hinj⟩ := hM
  obtain ⟨itb, in6, iti, ila, ibu, ice, ion, ifr, ilo, ire, itk⟩ := hI
  obtain ⟨hr_0a, hr_0b⟩ := hr_0
  refine lv_aload_n hx hb d_Mo_holder_0 rfl (lv_at hl 0 rfl) ?_
  refine lv_iload_n hx hb d_Mo_holder_1 rfl (lv_at hl 1 rfl) ?_
  refine lv_iconst (v := iZ 0) hx hb d_Mo_holder_2 rfl ?_
  refine lv_iconst (v := iZ 3) hx hb d_Mo_holder_3 rfl ?_
  refine fw_ro (r := .int (bZ (decide (ob < 0 ∨ 3 < ob)))) (va_runV (As := [.int (iZ ob), .int (iZ 0), .int (iZ 3)]) (rest := []) ⟨hx, hb, hml, hown, hts⟩ (c_Mo_out l g w b ad N tb ob 0 3 hM0 ⟨by omega, by omega⟩ ⟨by omega, by omega⟩ ⟨by omega, by omega⟩) (cwV 3 hts (gdV k_Mo_out t_591 t_593 t_34 t_50) rfl rfl rfl (by decide +kernel) ⟨Nat.le_of_ble_eq_true rfl, Nat.le_of_ble_eq_true rfl⟩) ⟨roP_blind, fw_recv hK hP hmo rfl, roP_pre hK hP⟩ rfl rfl hl.1 rfl (lv_room (Nat.le_of_ble_eq_true rfl)) d_Mo_holder_4 ⟨by decide, by decide⟩) ?_
  refine zb_if_eq (tgt := 12) hx hb d_Mo_holder_7 (by decide) (fun c7 => ?_) (fun c7 => ?_)
  · refine lv_iconst (v := iZ 0) hx hb d_Mo_holder_12 rfl ?_
    refine lv_istore_n (lv' := [(2, .int (iZ 0)), (0, .ref b), (1, .int (iZ ob))]) hx hb d_Mo_holder_13 rfl hl (by decide) rfl (fun ls hl => ?_)
    have lp : ∀ (f i : Nat), i + f = nTa N → (hnM N ob = hnF N ob f i) → ∀ ls : Array Slot, lv_has ls 3 [(2, .int (iZ ((i : Int)))), (0, .ref b), (1, .int (iZ ob))] → W p l e ({ frames := 2, cells := 0, slots := 0, locals := 45 }) s m ([.ref b, .int (iZ ob)] : List Value).toArray below meth c s.heap [] 0 0 (MQ below (k2_QcV (.int (iZ (hnM N ob)))) ([.ref b, .int (iZ ob)] : List Value).toArray s 0 0 (fun _ => False)) (F0 m 14 ls []) := by
      intro f
      induction f with
      | zero =>
        intro i hif hv ls hl
        refine lv_iload_n hx hb d_Mo_holder_14 rfl (lv_at hl 0 rfl) ?_
        refine lv_aload_n hx hb d_Mo_holder_15 rfl (lv_at hl 1 rfl) ?_
        refine fw_get (ci := 5) (v := .int (iZ ((nTa N : Int)))) (C := rMo) (T := fMo) (N := 26) hx hb hts iMo hown hK hP hmo rfl 0 (by decide) (hts _ t_508) (fun _ h9 => h9) rfl d_Mo_holder_16 ?_
        refine zz_icmp_ge (tgt := 39) hx hb d_Mo_holder_19 (by decide) ⟨by omega, by omega⟩ ⟨by omega, by omega⟩ (fun c19 => ?_) (fun c19 => ?_)
        · refine lv_bipush (v := iZ (-3)) hx hb d_Mo_holder_39 (by decide) ?_
          exact ro_iret hx hb hr hlocks d_Mo_holder_41 (congrArg iZ (by rw [hv]; rfl))
        · exfalso; omega
      | succ f ih =>
        intro i hif hv ls hl
        refine lv_iload_n hx hb d_Mo_holder_14 rfl (lv_at hl 0 rfl) ?_
        refine lv_aload_n hx hb d_Mo_holder_15 rfl (lv_at hl 1 rfl) ?_
        refine fw_get (ci := 5) (v := .int (iZ ((nTa N : Int)))) (C := rMo) (T := fMo) (N := 26) hx hb hts iMo hown hK hP hmo rfl 0 (by decide) (hts _ t_508) (fun _ h9 => h9) rfl d_Mo_holder_16 ?_
        refine zz_icmp_ge (tgt := 39) hx hb d_Mo_holder_19 (by decide) ⟨by omega, by omega⟩ ⟨by omega, by omega⟩ (fun c19 => ?_) (fun c19 => ?_)
        · exfalso; omega
        · refine lv_aload_n hx hb d_Mo_holder_22 rfl (lv_at hl 1 rfl) ?_
          refine lv_iload_n hx hb d_Mo_holder_23 rfl (lv_at hl 0 rfl) ?_
          refine fw_ro (r := .int (iZ (heM N i))) (va_runV (As := [.int (iZ ((i : Int)))]) (rest := []) ⟨hx, hb, hml, hown, hts⟩ (c_Mo_held l g w b ad N tb i hM0 hI0 (by omega)) (cwV 1 hts (gdV k_Mo_held t_643 t_645 t_42 t_50) rfl rfl rfl (by decide +kernel) ⟨Nat.le_of_ble_eq_true rfl, Nat.le_of_ble_eq_true rfl⟩) ⟨roP_blind, fw_recv hK hP hmo rfl, roP_pre hK hP⟩ rfl rfl hl.1 rfl (lv_room (Nat.le_of_ble_eq_true rfl)) d_Mo_holder_24 ⟨by decide, by decide⟩) ?_
          have hhr := heM_rng N i ion
          refine lv_iload_n hx hb d_Mo_holder_27 rfl (lv_at hl 2 rfl) ?_
          refine zz_icmp_ne (tgt := 33) hx hb d_Mo_holder_28 (by decide) ⟨by omega, by omega⟩ ⟨by omega, by omega⟩ (fun c28 => ?_) (fun c28 => ?_)
          · refine lv_iinc (v := iZ (((i : Int)) + 1)) (lv' := [(2, .int (iZ (((i : Int)) + 1))), (0, .ref b), (1, .int (iZ ob))]) hx hb d_Mo_holder_33 hl (k := 0) rfl (iZ_add _ _) (by decide) rfl (fun ls hl => ?_)
            refine lv_goto (tgt := 14) hx hb d_Mo_holder_36 (by decide) ?_
            exact ih (i + 1) (by omega) (by rw [hv, hnF, if_neg c28]) ls (lv_sub hl [0, 1, 2] rfl)
          · refine lv_iload_n hx hb d_Mo_holder_31 rfl (lv_at hl 0 rfl) ?_
            exact ro_iret hx hb hr hlocks d_Mo_holder_32 (congrArg iZ (by rw [hv, hnF, if_pos c28]))
    exact lp (nTa N) 0 (by omega) (by rw [hnM, if_neg (of_decide_eq_false c7)]) ls (lv_sub hl [0, 1, 2] rfl)
  · refine lv_iconst (v := iZ (-1)) hx hb d_Mo_holder_10 rfl ?_
    exact ro_iret hx hb hr hlocks d_Mo_holder_11 (congrArg iZ (by rw [hnM, if_pos (of_decide_eq_true c7)]))

set_option maxHeartbeats 4000000 in
set_option maxRecDepth 100000 in
theorem c_Mo_timeline (l : Launch) (g : GG) (w : fw) (b : Nat) (ad : Nat → Nat) (N : MoM) (tb : Int) (x : Int) (hM : MoP g w b ad N) (hI : MoI N tb) (hr_0 : ir x) : RO l y_Mo_timeline w_Mo_timeline ({ frames := 0, cells := 0, slots := 0, locals := 0 }) g w [.ref b, .int (iZ x)] (.int (iZ (lnM N x))) := by
  refine ro_go (by decide) rfl (Nat.le_of_ble_eq_true rfl) ?_
  intro p e s m below meth c hx hb hr hml hown hts hlocks hK hP ls hl
  have hown : s.vm.findClass rMo = some m.cls := hown
  have hl : lv_has ls 2 [(0, .ref b), (1, .int (iZ x))] := hl
  have hI0 := hI
  have hM0 := hM
  obtain ⟨hmo, qa0, qa1, qa2, qa3, qa4, qa5, qa6, qa7, qa8, qa9, qa10, qa11, qa12, qa13, qa14, qa15, qa16, qa17, qa18, hinj⟩ := hM
  obtain ⟨itb, in6, iti, ila, ibu, ice, ion, ifr, ilo, ire, itk⟩ := hI
  obtain ⟨hr_0a, hr_0b⟩ := hr_0
  refine lv_iload_n hx hb d_Mo_timeline_0 rfl (lv_at hl 1 rfl) ?_
  refine zz_if_lt (tgt := 23) hx hb d_Mo_timeline_1 (by decide) ⟨by omega, by omega⟩ (fun c1 => ?_) (fun c1 => ?_)
  · refine lv_iconst (v := iZ (-1)) hx hb d_Mo_timeline_23 rfl ?_
    refine lv_goto (tgt := 36) hx hb d_Mo_timeline_24 (by decide) ?_
    exact ro_iret hx hb hr hlocks d_Mo_timeline_36 (congrArg iZ (by rw [lnM, if_pos (by omega)]))
  · refine lv_iload_n hx hb d_Mo_timeline_4 rfl (lv_at hl 1 rfl) ?_
    refine lv_aload_n hx hb d_Mo_timeline_5 rfl (lv_at hl 0 rfl) ?_
    refine fw_get (ci := 5) (v := .int (iZ (nTi N))) (C := rMo) (T := fMo) (N := 26) hx hb hts iMo hown hK hP hmo rfl 1 (by decide) (hts _ t_509) (fun _ h9 => h9) rfl d_Mo_timeline_6 ?_
    refine zz_icmp_ge (tgt := 23) hx hb d_Mo_timeline_9 (by decide) ⟨by omega, by omega⟩ ⟨by omega, by omega⟩ (fun c9 => ?_) (fun c9 => ?_)
    · refine lv_iconst (v := iZ (-1)) hx hb d_Mo_timeline_23 rfl ?_
      refine lv_goto (tgt := 36) hx hb d_Mo_timeline_24 (by decide) ?_
      exact ro_iret hx hb hr hlocks d_Mo_timeline_36 (congrArg iZ (by rw [lnM, if_pos (by omega)]))
    · refine lv_iload_n hx hb d_Mo_timeline_12 rfl (lv_at hl 1 rfl) ?_
      refine lv_aload_n hx hb d_Mo_timeline_13 rfl (lv_at hl 0 rfl) ?_
      refine fw_get (ci := 5) (v := .int (iZ (nTi N))) (C := rMo) (T := fMo) (N := 26) hx hb hts iMo hown hK hP hmo rfl 1 (by decide) (hts _ t_509) (fun _ h9 => h9) rfl d_Mo_timeline_14 ?_
      refine lv_bipush (v := iZ 64) hx hb d_Mo_timeline_17 (by decide) ?_
      refine zz_isub hx hb d_Mo_timeline_19 ?_
      refine zz_icmp_ge (tgt := 27) hx hb d_Mo_timeline_20 (by decide) ⟨by omega, by omega⟩ ⟨by omega, by omega⟩ (fun c20 => ?_) (fun c20 => ?_)
      · refine lv_aload_n hx hb d_Mo_timeline_27 rfl (lv_at hl 0 rfl) ?_
        refine fw_get (ci := 5) (v := .ref (ad 18)) (C := rMo) (T := fMo) (N := 26) hx hb hts iMo hown hK hP hmo rfl 25 (by decide) (hts _ t_533) (fun _ h9 => h9) rfl d_Mo_timeline_28 ?_
        refine lv_iload_n hx hb d_Mo_timeline_31 rfl (lv_at hl 1 rfl) ?_
        refine lv_bipush (v := iZ 64) hx hb d_Mo_timeline_32 (by decide) ?_
        refine zz_irem hx hb d_Mo_timeline_34 (by omega) (by omega) (by omega) (by omega) ?_
        refine fw_iald hx hb hK hP qa18 (by decide) (((x % 64).toNat)) (by omega) (by omega) d_Mo_timeline_35 ?_
        exact ro_iret hx hb hr hlocks d_Mo_timeline_36 (congrArg iZ (by rw [lnM, if_neg (by omega)]))
      · refine lv_iconst (v := iZ (-1)) hx hb d_Mo_timeline_23 rfl ?_
        refine lv_goto (tgt := 36) hx hb d_Mo_timeline_24 (by decide) ?_
        exact ro_iret hx hb hr hlocks d_Mo_timeline_36 (congrArg iZ (by rw [lnM, if_pos (by omega)]))

set_option maxHeartbeats 4000000 in
set_option maxRecDepth 100000 in
theorem c_Mo_count (l : Launch) (g : GG) (w : fw) (b : Nat) (ad : Nat → Nat) (N : MoM) (tb : Int) (x : Int) (hM : MoP g w b ad N) (hI : MoI N tb) (hr_0 : ir x) : RO l y_Mo_count w_Mo_count ({ frames := 3, cells := 0, slots := 0, locals := 69 }) g w [.ref b, .int (iZ x)] (.int (iZ (cxM N x))) := by
  refine ro_go (by decide) rfl (Nat.le_of_ble_eq_true rfl) ?_
  intro p e s m below meth c hx hb hr hml hown hts hlocks hK hP ls hl
  have hown : s.vm.findClass rMo = some m.cls := hown
  have hl : lv_has ls 6 [(0, .ref b), (1, .int (iZ x))] := hl
  have hI0 := hI
  have hM0 := hM
  obtain ⟨hmo, qa0, qa1, qa2, qa3, qa4, qa5, qa6, qa7, qa8, qa9, qa10, qa11, qa12, qa13, qa14, qa15, qa16, qa17, qa18, hinj⟩ := hM
  obtain ⟨itb, in6, iti, ila, ibu, ice, ion, ifr, ilo, ire, itk⟩ := hI
  obtain ⟨hr_0a, hr_0b⟩ := hr_0
  refine lv_iconst (v := iZ 0) hx hb d_Mo_count_0 rfl ?_
  refine lv_istore_n (lv' := [(2, .int (iZ 0)), (0, .ref b), (1, .int (iZ x))]) hx hb d_Mo_count_1 rfl hl (by decide) rfl (fun ls hl => ?_)
  refine lv_iconst (v := iZ 1) hx hb d_Mo_count_2 rfl ?_
  refine lv_istore_n (lv' := [(3, .int (iZ 1)), (2, .int (iZ 0)), (0, .ref b), (1, .int (iZ x))]) hx hb d_Mo_count_3 rfl hl (by decide) rfl (fun ls hl => ?_)
  refine lv_iconst (v := iZ 0) hx hb d_Mo_count_4 rfl ?_
  refine lv_istore (lv' := [(4, .int (iZ 0)), (3, .int (iZ 1)), (2, .int (iZ 0)), (0, .ref b), (1, .int (iZ x))]) hx hb d_Mo_count_5 hl (by decide) rfl (fun ls hl => ?_)
  have lp : ∀ (f i : Nat) (op : Int) (fi : Int), i + f = nTa N → (coF N (nTa N) 0 0 = coF N f i op) → (cfF N x (nTa N) 0 1 = cfF N x f i fi) → ∀ ls : Array Slot, lv_has ls 6 [(4, .int (iZ ((i : Int)))), (2, .int (iZ op)), (3, .int (iZ fi)), (0, .ref b), (1, .int (iZ x))] → W p l e ({ frames := 3, cells := 0, slots := 0, locals := 69 }) s m ([.ref b, .int (iZ x)] : List Value).toArray below meth c s.heap [] 0 0 (MQ below (k2_QcV (.int (iZ (cxM N x)))) ([.ref b, .int (iZ x)] : List Value).toArray s 0 0 (fun _ => False)) (F0 m 7 ls []) := by
    intro f
    induction f with
    | zero =>
      intro i op fi hif hv hw ls hl
      refine lv_iload hx hb d_Mo_count_7 (lv_at hl 0 rfl) ?_
      refine lv_aload_n hx hb d_Mo_count_9 rfl (lv_at hl 3 rfl) ?_
      refine fw_get (ci := 5) (v := .int (iZ ((nTa N : Int)))) (C := rMo) (T := fMo) (N := 26) hx hb hts iMo hown hK hP hmo rfl 0 (by decide) (hts _ t_508) (fun _ h9 => h9) rfl d_Mo_count_10 ?_
      refine zz_icmp_ge (tgt := 68) hx hb d_Mo_count_13 (by decide) ⟨by omega, by omega⟩ ⟨by omega, by omega⟩ (fun c13 => ?_) (fun c13 => ?_)
      · refine lv_iload_n hx hb d_Mo_count_68 rfl (lv_at hl 4 rfl) ?_
        refine zz_if_ne (tgt := 79) hx hb d_Mo_count_69 (by decide) ⟨by omega, by omega⟩ (fun c69 => ?_) (fun c69 => ?_)
        · refine lv_iload_n hx hb d_Mo_count_79 rfl (lv_at hl 4 rfl) ?_
          refine lv_iconst (v := iZ 1) hx hb d_Mo_count_80 rfl ?_
          refine zz_icmp_ne (tgt := 91) hx hb d_Mo_count_81 (by decide) ⟨by omega, by omega⟩ ⟨by omega, by omega⟩ (fun c81 => ?_) (fun c81 => ?_)
          · refine lv_iload_n hx hb d_Mo_count_91 rfl (lv_at hl 4 rfl) ?_
            refine lv_iconst (v := iZ 2) hx hb d_Mo_count_92 rfl ?_
            refine zz_icmp_ne (tgt := 103) hx hb d_Mo_count_93 (by decide) ⟨by omega, by omega⟩ ⟨by omega, by omega⟩ (fun c93 => ?_) (fun c93 => ?_)
            · refine lv_iload_n hx hb d_Mo_count_103 rfl (lv_at hl 4 rfl) ?_
              refine lv_iconst (v := iZ 3) hx hb d_Mo_count_104 rfl ?_
              refine zz_icmp_ne (tgt := 115) hx hb d_Mo_count_105 (by decide) ⟨by omega, by omega⟩ ⟨by omega, by omega⟩ (fun c105 => ?_) (fun c105 => ?_)
              · refine lv_iload_n hx hb d_Mo_count_115 rfl (lv_at hl 4 rfl) ?_
                refine lv_iconst (v := iZ 4) hx hb d_Mo_count_116 rfl ?_
                refine zz_icmp_ne (tgt := 124) hx hb d_Mo_count_117 (by decide) ⟨by omega, by omega⟩ ⟨by omega, by omega⟩ (fun c117 => ?_) (fun c117 => ?_)
                · refine lv_iload_n hx hb d_Mo_count_124 rfl (lv_at hl 4 rfl) ?_
                  refine lv_iconst (v := iZ 5) hx hb d_Mo_count_125 rfl ?_
                  refine zz_icmp_ne (tgt := 133) hx hb d_Mo_count_126 (by decide) ⟨by omega, by omega⟩ ⟨by omega, by omega⟩ (fun c126 => ?_) (fun c126 => ?_)
                  · refine lv_iconst (v := iZ (-1)) hx hb d_Mo_count_133 rfl ?_
                    exact ro_iret hx hb hr hlocks d_Mo_count_134 (congrArg iZ (by rw [cxM, if_neg c69, if_neg c81, if_neg c93, if_neg c105, if_neg c117, if_neg c126]))
                  · refine lv_iload_n hx hb d_Mo_count_129 rfl (lv_at hl 2 rfl) ?_
                    refine lv_goto (tgt := 134) hx hb d_Mo_count_130 (by decide) ?_
                    exact ro_iret hx hb hr hlocks d_Mo_count_134 (congrArg iZ (by rw [cxM, if_neg c69, if_neg c81, if_neg c93, if_neg c105, if_neg c117, if_pos c126, hw]; rfl))
                · refine lv_iload_n hx hb d_Mo_count_120 rfl (lv_at hl 1 rfl) ?_
                  refine lv_goto (tgt := 134) hx hb d_Mo_count_121 (by decide) ?_
                  exact ro_iret hx hb hr hlocks d_Mo_count_134 (congrArg iZ (by rw [cxM, if_neg c69, if_neg c81, if_neg c93, if_neg c105, if_pos c117, hv]; rfl))
              · refine lv_aload_n hx hb d_Mo_count_108 rfl (lv_at hl 3 rfl) ?_
                refine fw_get (ci := 5) (v := .int (iZ ((nTa N : Int)))) (C := rMo) (T := fMo) (N := 26) hx hb hts iMo hown hK hP hmo rfl 0 (by decide) (hts _ t_508) (fun _ h9 => h9) rfl d_Mo_count_109 ?_
                refine lv_goto (tgt := 134) hx hb d_Mo_count_112 (by decide) ?_
                exact ro_iret hx hb hr hlocks d_Mo_count_134 (congrArg iZ (by rw [cxM, if_neg c69, if_neg c81, if_neg c93, if_pos c105]))
            · refine lv_aload_n hx hb d_Mo_count_96 rfl (lv_at hl 3 rfl) ?_
              refine fw_get (ci := 5) (v := .int (iZ (nSw N))) (C := rMo) (T := fMo) (N := 26) hx hb hts iMo hown hK hP hmo rfl 3 (by decide) (hts _ t_511) (fun _ h9 => h9) rfl d_Mo_count_97 ?_
              refine lv_goto (tgt := 134) hx hb d_Mo_count_100 (by decide) ?_
              exact ro_iret hx hb hr hlocks d_Mo_count_134 (congrArg iZ (by rw [cxM, if_neg c69, if_neg c81, if_pos c93]))
          · refine lv_aload_n hx hb d_Mo_count_84 rfl (lv_at hl 3 rfl) ?_
            refine fw_get (ci := 5) (v := .int (iZ (nId N))) (C := rMo) (T := fMo) (N := 26) hx hb hts iMo hown hK hP hmo rfl 2 (by decide) (hts _ t_510) (fun _ h9 => h9) rfl d_Mo_count_85 ?_
            refine lv_goto (tgt := 134) hx hb d_Mo_count_88 (by decide) ?_
            exact ro_iret hx hb hr hlocks d_Mo_count_134 (congrArg iZ (by rw [cxM, if_neg c69, if_pos c81]))
        · refine lv_aload_n hx hb d_Mo_count_72 rfl (lv_at hl 3 rfl) ?_
          refine fw_get (ci := 5) (v := .int (iZ (nTi N))) (C := rMo) (T := fMo) (N := 26) hx hb hts iMo hown hK hP hmo rfl 1 (by decide) (hts _ t_509) (fun _ h9 => h9) rfl d_Mo_count_73 ?_
          refine lv_goto (tgt := 134) hx hb d_Mo_count_76 (by decide) ?_
          exact ro_iret hx hb hr hlocks d_Mo_count_134 (congrArg iZ (by rw [cxM, if_pos c69]))
      · exfalso; omega
    | succ f ih =>
      intro i op fi hif hv hw ls hl
      refine lv_iload hx hb d_Mo_count_7 (lv_at hl 0 rfl) ?_
      refine lv_aload_n hx hb d_Mo_count_9 rfl (lv_at hl 3 rfl) ?_
      refine fw_get (ci := 5) (v := .int (iZ ((nTa N : Int)))) (C := rMo) (T := fMo) (N := 26) hx hb hts iMo hown hK hP hmo rfl 0 (by decide) (hts _ t_508) (fun _ h9 => h9) rfl d_Mo_count_10 ?_
      refine zz_icmp_ge (tgt := 68) hx hb d_Mo_count_13 (by decide) ⟨by omega, by omega⟩ ⟨by omega, by omega⟩ (fun c13 => ?_) (fun c13 => ?_)
      · exfalso; omega
      · obtain ⟨r0i, r1i, r2i, r3i, r4i, r6i, r10i, r12i, r16i⟩ := itk i (by omega)
        refine lv_iload_n hx hb d_Mo_count_16 rfl (lv_at hl 1 rfl) ?_
        refine lv_aload_n hx hb d_Mo_count_17 rfl (lv_at hl 3 rfl) ?_
        refine fw_get (ci := 5) (v := .ref (ad 10)) (C := rMo) (T := fMo) (N := 26) hx hb hts iMo hown hK hP hmo rfl 17 (by decide) (hts _ t_525) (fun _ h9 => h9) rfl d_Mo_count_18 ?_
        refine lv_iload hx hb d_Mo_count_21 (lv_at hl 0 rfl) ?_
        refine fw_iald hx hb hK hP qa10 (by decide) i rfl (by omega) d_Mo_count_23 ?_
        refine zz_iadd hx hb d_Mo_count_24 ?_
        refine lv_istore_n (lv' := [(2, .int (iZ (op + ((nA N 10) i)))), (4, .int (iZ ((i : Int)))), (3, .int (iZ fi)), (0, .ref b), (1, .int (iZ x))]) hx hb d_Mo_count_25 rfl hl (by decide) rfl (fun ls hl => ?_)
        refine lv_iload_n hx hb d_Mo_count_26 rfl (lv_at hl 4 rfl) ?_
        refine lv_iconst (v := iZ 5) hx hb d_Mo_count_27 rfl ?_
        refine zz_icmp_ne (tgt := 40) hx hb d_Mo_count_28 (by decide) ⟨by omega, by omega⟩ ⟨by omega, by omega⟩ (fun c28 => ?_) (fun c28 => ?_)
        · refine lv_iconst (v := iZ 1) hx hb d_Mo_count_40 rfl ?_
          refine lv_istore (lv' := [(5, .int (iZ 1)), (2, .int (iZ (op + ((nA N 10) i)))), (4, .int (iZ ((i : Int)))), (3, .int (iZ fi)), (0, .ref b), (1, .int (iZ x))]) hx hb d_Mo_count_41 hl (by decide) rfl (fun ls hl => ?_)
          refine lv_iload hx hb d_Mo_count_43 (lv_at hl 0 rfl) ?_
          refine zz_if_lt (tgt := 60) hx hb d_Mo_count_45 (by decide) ⟨by omega, by omega⟩ (fun c45 => ?_) (fun c45 => ?_)
          · exfalso; omega
          · refine lv_iload hx hb d_Mo_count_48 (lv_at hl 0 rfl) ?_
            refine lv_aload_n hx hb d_Mo_count_50 rfl (lv_at hl 4 rfl) ?_
            refine fw_get (ci := 5) (v := .ref (ad 2)) (C := rMo) (T := fMo) (N := 26) hx hb hts iMo hown hK hP hmo rfl 9 (by decide) (hts _ t_517) (fun _ h9 => h9) rfl d_Mo_count_51 ?_
            refine lv_iload hx hb d_Mo_count_54 (lv_at hl 2 rfl) ?_
            refine fw_iald hx hb hK hP qa2 (by decide) i rfl (by omega) d_Mo_count_56 ?_
            refine zz_icmp_le (tgt := 62) hx hb d_Mo_count_57 (by decide) ⟨by omega, by omega⟩ ⟨by omega, by omega⟩ (fun c57 => ?_) (fun c57 => ?_)
            · refine lv_iinc (v := iZ (((i : Int)) + 1)) (lv' := [(4, .int (iZ (((i : Int)) + 1))), (5, .int (iZ 1)), (2, .int (iZ (op + ((nA N 10) i)))), (3, .int (iZ fi)), (0, .ref b), (1, .int (iZ x))]) hx hb d_Mo_count_62 hl (k := 2) rfl (iZ_add _ _) (by decide) rfl (fun ls hl => ?_)
              refine lv_goto (tgt := 7) hx hb d_Mo_count_65 (by decide) ?_
              exact ih (i + 1) (op + ((nA N 10) i)) fi (by omega) (by rw [hv, coF]) (by rw [hw, cfF, cbM, if_neg c28, if_neg (by omega)]) ls (lv_sub hl [0, 2, 3, 4, 5] rfl)
            · refine lv_iconst (v := iZ 0) hx hb d_Mo_count_60 rfl ?_
              refine lv_istore_n (lv' := [(3, .int (iZ 0)), (5, .int (iZ 1)), (2, .int (iZ (op + ((nA N 10) i)))), (4, .int (iZ ((i : Int)))), (0, .ref b), (1, .int (iZ x))]) hx hb d_Mo_count_61 rfl hl (by decide) rfl (fun ls hl => ?_)
              refine lv_iinc (v := iZ (((i : Int)) + 1)) (lv' := [(4, .int (iZ (((i : Int)) + 1))), (3, .int (iZ 0)), (5, .int (iZ 1)), (2, .int (iZ (op + ((nA N 10) i)))), (0, .ref b), (1, .int (iZ x))]) hx hb d_Mo_count_62 hl (k := 3) rfl (iZ_add _ _) (by decide) rfl (fun ls hl => ?_)
              refine lv_goto (tgt := 7) hx hb d_Mo_count_65 (by decide) ?_
              exact ih (i + 1) (op + ((nA N 10) i)) 0 (by omega) (by rw [hv, coF]) (by rw [hw, cfF, cbM, if_neg c28, if_pos (by omega)]) ls (lv_sub hl [0, 3, 1, 4, 5] rfl)
        · refine lv_aload_n hx hb d_Mo_count_31 rfl (lv_at hl 3 rfl) ?_
          refine lv_iload hx hb d_Mo_count_32 (lv_at hl 1 rfl) ?_
          refine fw_ro (r := .int (iZ (bnM N i))) (va_runV (As := [.int (iZ ((i : Int)))]) (rest := []) ⟨hx, hb, hml, hown, hts⟩ (c_Mo_boundN l g w b ad N tb i hM0 hI0 (by omega)) (cwV 1 hts (gdV k_Mo_bound t_680 t_668 t_669 t_50) rfl rfl rfl (by decide +kernel) ⟨Nat.le_of_ble_eq_true rfl, Nat.le_of_ble_eq_true rfl⟩) ⟨roP_blind, fw_recv hK hP hmo rfl, roP_pre hK hP⟩ rfl rfl hl.1 rfl (lv_room (Nat.le_of_ble_eq_true rfl)) d_Mo_count_34 ⟨by decide, by decide⟩) ?_
          refine lv_goto (tgt := 41) hx hb d_Mo_count_37 (by decide) ?_
          have hbn := bnM_rng N i r0i
          refine lv_istore (lv' := [(5, .int (iZ (bnM N i))), (2, .int (iZ (op + ((nA N 10) i)))), (4, .int (iZ ((i : Int)))), (3, .int (iZ fi)), (0, .ref b), (1, .int (iZ x))]) hx hb d_Mo_count_41 hl (by decide) rfl (fun ls hl => ?_)
          refine lv_iload hx hb d_Mo_count_43 (lv_at hl 0 rfl) ?_
          refine zz_if_lt (tgt := 60) hx hb d_Mo_count_45 (by decide) ⟨by omega, by omega⟩ (fun c45 => ?_) (fun c45 => ?_)
          · refine lv_iconst (v := iZ 0) hx hb d_Mo_count_60 rfl ?_
            refine lv_istore_n (lv' := [(3, .int (iZ 0)), (5, .int (iZ (bnM N i))), (2, .int (iZ (op + ((nA N 10) i)))), (4, .int (iZ ((i : Int)))), (0, .ref b), (1, .int (iZ x))]) hx hb d_Mo_count_61 rfl hl (by decide) rfl (fun ls hl => ?_)
            refine lv_iinc (v := iZ (((i : Int)) + 1)) (lv' := [(4, .int (iZ (((i : Int)) + 1))), (3, .int (iZ 0)), (5, .int (iZ (bnM N i))), (2, .int (iZ (op + ((nA N 10) i)))), (0, .ref b), (1, .int (iZ x))]) hx hb d_Mo_count_62 hl (k := 3) rfl (iZ_add _ _) (by decide) rfl (fun ls hl => ?_)
            refine lv_goto (tgt := 7) hx hb d_Mo_count_65 (by decide) ?_
            exact ih (i + 1) (op + ((nA N 10) i)) 0 (by omega) (by rw [hv, coF]) (by rw [hw, cfF, cbM, if_pos c28, if_pos (by omega)]) ls (lv_sub hl [0, 3, 1, 4, 5] rfl)
          · refine lv_iload hx hb d_Mo_count_48 (lv_at hl 0 rfl) ?_
            refine lv_aload_n hx hb d_Mo_count_50 rfl (lv_at hl 4 rfl) ?_
            refine fw_get (ci := 5) (v := .ref (ad 2)) (C := rMo) (T := fMo) (N := 26) hx hb hts iMo hown hK hP hmo rfl 9 (by decide) (hts _ t_517) (fun _ h9 => h9) rfl d_Mo_count_51 ?_
            refine lv_iload hx hb d_Mo_count_54 (lv_at hl 2 rfl) ?_
            refine fw_iald hx hb hK hP qa2 (by decide) i rfl (by omega) d_Mo_count_56 ?_
            refine zz_icmp_le (tgt := 62) hx hb d_Mo_count_57 (by decide) ⟨by omega, by omega⟩ ⟨by omega, by omega⟩ (fun c57 => ?_) (fun c57 => ?_)
            · refine lv_iinc (v := iZ (((i : Int)) + 1)) (lv' := [(4, .int (iZ (((i : Int)) + 1))), (5, .int (iZ (bnM N i))), (2, .int (iZ (op + ((nA N 10) i)))), (3, .int (iZ fi)), (0, .ref b), (1, .int (iZ x))]) hx hb d_Mo_count_62 hl (k := 2) rfl (iZ_add _ _) (by decide) rfl (fun ls hl => ?_)
              refine lv_goto (tgt := 7) hx hb d_Mo_count_65 (by decide) ?_
              exact ih (i + 1) (op + ((nA N 10) i)) fi (by omega) (by rw [hv, coF]) (by rw [hw, cfF, cbM, if_pos c28, if_neg (by omega)]) ls (lv_sub hl [0, 2, 3, 4, 5] rfl)
            · refine lv_iconst (v := iZ 0) hx hb d_Mo_count_60 rfl ?_
              refine lv_istore_n (lv' := [(3, .int (iZ 0)), (5, .int (iZ (bnM N i))), (2, .int (iZ (op + ((nA N 10) i)))), (4, .int (iZ ((i : Int)))), (0, .ref b), (1, .int (iZ x))]) hx hb d_Mo_count_61 rfl hl (by decide) rfl (fun ls hl => ?_)
              refine lv_iinc (v := iZ (((i : Int)) + 1)) (lv' := [(4, .int (iZ (((i : Int)) + 1))), (3, .int (iZ 0)), (5, .int (iZ (bnM N i))), (2, .int (iZ (op + ((nA N 10) i)))), (0, .ref b), (1, .int (iZ x))]) hx hb d_Mo_count_62 hl (k := 3) rfl (iZ_add _ _) (by decide) rfl (fun ls hl => ?_)
              refine lv_goto (tgt := 7) hx hb d_Mo_count_65 (by decide) ?_
              exact ih (i + 1) (op + ((nA N 10) i)) 0 (by omega) (by rw [hv, coF]) (by rw [hw, cfF, cbM, if_pos c28, if_pos (by omega)]) ls (lv_sub hl [0, 3, 1, 4, 5] rfl)
  exact lp (nTa N) 0 0 1 (by omega) rfl rfl ls (lv_sub hl [0, 2, 1, 3, 4] rfl)
