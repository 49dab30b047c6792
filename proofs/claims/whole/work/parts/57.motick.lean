theorem MoI_luI {N : MoM} {tb : Int} (h : MoI N tb) (hs : usM N = false) : ∀ i, i ≤ nTa N → MoI (luI N i) tb
  | 0, _ => h
  | i + 1, hi => by
    have hh := MoI_luI h hs i (by omega)
    show MoI (luS (luI N i) i) tb
    unfold luS
    split
    · rename_i c
      refine MoI_lg hh (fun hlt => ?_)
      rw [coM_luI] at c
      obtain ⟨h1, -, -, -, h5⟩ := luI_same N i
      rw [h5 i (Nat.le_refl _)]
      have hno := usF_no N (nTa N) 0 hs i (by omega) (by omega)
      have h7 := (h.2.2.2.2.2.2.2.2.2.2 i (by omega)).2.2.2.2.2.2.1
      have : ¬ nA N 10 i = 8 := fun z => hno ⟨c, z⟩
      omega
    · exact hh
theorem MoI_ltI {N : MoM} {tb : Int} (h : MoI N tb) : ∀ i, MoI (ltI N i) tb
  | 0 => h
  | i + 1 => MoI_ltI h i
theorem uvM_same (N : MoM) : nTa (uvM N) = nTa N ∧ nTi (uvM N) = nTi N + 1 := by
  obtain ⟨a1, a2, -⟩ := luI_same N (nTa N)
  obtain ⟨c1, c2⟩ := uvA_same (luI N (nTa N)) (ruM (luI N (nTa N)))
  obtain ⟨b1, b2, -⟩ := ltI_same (uvB (uvA (luI N (nTa N)) (ruM (luI N (nTa N)))) (ruM (luI N (nTa N)))) (nTa (luI N (nTa N)))
  refine ⟨b1.trans (c1.trans a1), b2.trans ?_⟩
  show nTi (uvA (luI N (nTa N)) (ruM (luI N (nTa N)))) + 1 = nTi N + 1
  rw [c2, a2]
theorem MoI_uvM {N : MoM} {tb : Int} (h : MoI N tb) (hs : usM N = false) (hl : nTi N < tb) : MoI (uvM N) tb := by
  have h1 := MoI_luI h hs (nTa N) (Nat.le_refl _)
  obtain ⟨a1, a2, -⟩ := luI_same N (nTa N)
  have hl2 : nTi (luI N (nTa N)) < tb := by rw [a2]; exact hl
  have hsp := ruM_spec (luI N (nTa N))
  have hn := h1.2.1
  exact MoI_ltI (MoI_uvB (MoI_uvA h1 hl2 hsp) (by rw [(uvA_same _ _).2]; exact hl2) (by rcases hsp with z | ⟨u, z1, z2, z3⟩ <;> omega)) _
def tmF : Nat → MoM → Nat × MoM
  | 0, N => (0, N)
  | f + 1, N => if usM N = true then (0, N) else ((tmF f (uvM N)).1 + 1, (tmF f (uvM N)).2)
def tnR (N : MoM) (n : Int) : Int := if (n < 1 ∨ 200 < n) ∨ nSt N = false then -1 else if (tmF n.toNat N).1 = 0 then -2 else ((tmF n.toNat N).1 : Int)
def tnS (N : MoM) (n : Int) : MoM := if (n < 1 ∨ 200 < n) ∨ nSt N = false then N else (tmF n.toNat N).2
def moN0 : MoM := (0, 0, 0, 0, -3, -1, false, fun k => if k = 5 then fun _ => 10 else fun _ => 0)
theorem pw_get {l : List Nat} (h : List.Pairwise (fun x y => x ≠ y) l) {i j : Nat} (hi : i < l.length) (hj : j < l.length) (e : i ≠ j) : l.getD i 0 ≠ l.getD j 0 := by
  have e1 : l.getD i 0 = l[i] := by rw [List.getD_eq_getElem?_getD, List.getElem?_eq_getElem hi]; rfl
  have e2 : l.getD j 0 = l[j] := by rw [List.getD_eq_getElem?_getD, List.getElem?_eq_getElem hj]; rfl
  rw [e1, e2]
  rcases Nat.lt_or_gt_of_ne e with z | z
  · exact List.pairwise_iff_getElem.mp h i j hi hj z
  · exact Ne.symm (List.pairwise_iff_getElem.mp h j i hj hi z)
set_option maxHeartbeats 4000000 in
set_option maxRecDepth 100000 in
theorem c_Mo_tick (l : Launch) (g : GG) (w : fw) (sz : Nat) (b : Nat) (ad : Nat → Nat) (N : MoM) (O : Nat → Prop) (tb : Int) (n : Int) (hM : MoP g w b ad N) (hI : MoI N tb) (hO : MoO O b ad) (htb : nTi N + 200 ≤ tb) (hr_0 : ir n) : RWi l y_Mo_tick w_Mo_tick ({ frames := 5, cells := 0, slots := 0, locals := 112 }) g w sz [.ref b, .int (iZ n)] 0 0 ((fun rr1 w1 => rr1 = iZ (tnR N n) ∧ MoP g w1 b ad (tnS N n) ∧ ∀ q, ¬ O q → w1 q = w q)) := by
  refine rw_go (by decide) rfl (Nat.le_of_ble_eq_true rfl) ?_
  intro p e s m below meth c hx hb hr hml hown hts hlocks hin hsz hK hT hA hF ls hl
  subst hsz
  have hown : s.vm.findClass rMo = some m.cls := hown
  have hl : lv_has ls 3 [(0, .ref b), (1, .int (iZ n))] := hl
  have hI0 := hI
  have hM0 := hM
  obtain ⟨hmo, qa0, qa1, qa2, qa3, qa4, qa5, qa6, qa7, qa8, qa9, qa10, qa11, qa12, qa13, qa14, qa15, qa16, qa17, qa18, hinj⟩ := hM
  obtain ⟨itb, in6, iti, ila, ibu, ice, ion, ifr, ilo, ire, itk⟩ := hI
  obtain ⟨hr_0a, hr_0b⟩ := hr_0
  refine lv_aload_n hx hb d_Mo_tick_0 rfl (lv_at hl 0 rfl) ?_
  refine lv_iload_n hx hb d_Mo_tick_1 rfl (lv_at hl 1 rfl) ?_
  refine lv_iconst (v := iZ 1) hx hb d_Mo_tick_2 rfl ?_
  refine lv_sipush (v := iZ 200) hx hb d_Mo_tick_3 (by decide) ?_
  refine fw_ro (r := .int (bZ (decide (n < 1 ∨ 200 < n)))) (va_runV (As := [.int (iZ n), .int (iZ 1), .int (iZ 200)]) (rest := []) ⟨hx, hb, hml, hown, hts⟩ (c_Mo_out l g w b ad N tb n 1 200 hM0 ⟨by omega, by omega⟩ ⟨by omega, by omega⟩ ⟨by omega, by omega⟩) (cwV 3 hts (gdV k_Mo_out t_591 t_593 t_34 t_50) rfl rfl rfl (by decide +kernel) ⟨Nat.le_of_ble_eq_true rfl, Nat.le_of_ble_eq_true rfl⟩) ⟨roP_blind, fw_recv hK hF.1 hmo rfl, roP_pre hK hF.1⟩ rfl rfl hl.1 rfl (lv_room (Nat.le_of_ble_eq_true rfl)) d_Mo_tick_6 ⟨by decide, by decide⟩) ?_
  refine zb_if_ne (tgt := 19) hx hb d_Mo_tick_9 (by decide) (fun c9 => ?_) (fun c9 => ?_)
  · refine lv_iconst (v := iZ (-1)) hx hb d_Mo_tick_19 rfl ?_
    exact rw_iret hx hb hr hlocks d_Mo_tick_20 (by omega) (by omega) hF ⟨congrArg iZ (by rw [tnR, if_pos (Or.inl (of_decide_eq_true c9))]), (by rw [tnS, if_pos (Or.inl (of_decide_eq_true c9))]; exact hM0), fun q _ => rfl⟩
  · refine lv_aload_n hx hb d_Mo_tick_12 rfl (lv_at hl 0 rfl) ?_
    refine fw_get (ci := 5) (v := .int (bZ (nSt N))) (C := rMo) (T := fMo) (N := 26) hx hb hts iMo hown hK hF.1 hmo rfl 6 (by decide) (hts _ t_514) (fun _ h9 => h9) rfl d_Mo_tick_13 ?_
    refine zb_if_ne (tgt := 21) hx hb d_Mo_tick_16 (by decide) (fun c16 => ?_) (fun c16 => ?_)
    · have n9 := of_decide_eq_false c9
      have nz : ¬ ((n < 1 ∨ 200 < n) ∨ nSt N = false) := fun q => q.elim n9 (fun z => by rw [c16] at z; cases z)
      refine lv_iconst (v := iZ 0) hx hb d_Mo_tick_21 rfl ?_
      refine lv_istore_n (lv' := [(2, .int (iZ 0)), (0, .ref b), (1, .int (iZ n))]) hx hb d_Mo_tick_22 rfl hl (by decide) rfl (fun ls hl => ?_)
      have lp : ∀ (f i : Nat) (P : MoM) (wP : fw) (H : Heap) (locs : List Loc), ((i + f : Nat) : Int) = n → (tmF n.toNat N).1 = i + (tmF f P).1 → (tmF n.toNat N).2 = (tmF f P).2 → nTi P + (f : Int) ≤ tb → MoP g wP b ad P → MoI P tb → (∀ q, ¬ O q → wP q = w q) → fW g (fA w s.heap.size) s H locs wP → ∀ ls : Array Slot, lv_has ls 3 [(2, .int (iZ (i : Int))), (0, .ref b), (1, .int (iZ n))] → W p l e ({ frames := 5, cells := 0, slots := 0, locals := 112 }) s m ([.ref b, .int (iZ n)] : List Value).toArray below meth c H locs 0 0 (MQ below (va_Qi ((fun rr1 w1 => rr1 = iZ (tnR N n) ∧ MoP g w1 b ad (tnS N n) ∧ ∀ q, ¬ O q → w1 q = w q)) (rwB g w s.heap.size) (fA w s.heap.size)) ([.ref b, .int (iZ n)] : List Value).toArray s 0 0 (fA w s.heap.size)) (F0 m 23 ls []) := by
        intro f
        induction f with
        | zero =>
          intro i P wP H locs hif e1 e2 htt hMP hIP hofP hF ls hl
          obtain ⟨hmo, qa0, qa1, qa2, qa3, qa4, qa5, qa6, qa7, qa8, qa9, qa10, qa11, qa12, qa13, qa14, qa15, qa16, qa17, qa18, hinj⟩ := id hMP
          obtain ⟨itb, in6, iti, ila, ibu, ice, ion, ifr, ilo, ire, itk⟩ := id hIP
          refine lv_iload_n hx hb d_Mo_tick_23 rfl (lv_at hl 0 rfl) ?_
          refine lv_iload_n hx hb d_Mo_tick_24 rfl (lv_at hl 2 rfl) ?_
          refine zz_icmp_ge (tgt := 41) hx hb d_Mo_tick_25 (by decide) ⟨by omega, by omega⟩ ⟨by omega, by omega⟩ (fun c25 => ?_) (fun c25 => ?_)
          · refine lv_iload_n hx hb d_Mo_tick_41 rfl (lv_at hl 0 rfl) ?_
            refine zz_if_ne (tgt := 50) hx hb d_Mo_tick_42 (by decide) ⟨by omega, by omega⟩ (fun c42 => ?_) (fun c42 => ?_)
            · refine lv_iload_n hx hb d_Mo_tick_50 rfl (lv_at hl 0 rfl) ?_
              have q1 : (tmF n.toNat N).1 = i := by rw [e1]; rfl
              have q2 : (tmF n.toNat N).2 = P := by rw [e2]; rfl
              exact rw_iret hx hb hr hlocks d_Mo_tick_51 (by omega) (by omega) hF ⟨congrArg iZ (by rw [tnR, if_neg nz, q1, if_neg (by omega)]), (by rw [tnS, if_neg nz, q2]; exact hMP), hofP⟩
            · refine lv_bipush (v := iZ (-2)) hx hb d_Mo_tick_45 (by decide) ?_
              refine lv_goto (tgt := 51) hx hb d_Mo_tick_47 (by decide) ?_
              have q1 : (tmF n.toNat N).1 = i := by rw [e1]; rfl
              have q2 : (tmF n.toNat N).2 = P := by rw [e2]; rfl
              exact rw_iret hx hb hr hlocks d_Mo_tick_51 (by omega) (by omega) hF ⟨congrArg iZ (by rw [tnR, if_neg nz, q1, if_pos (by omega)]), (by rw [tnS, if_neg nz, q2]; exact hMP), hofP⟩
          · exfalso; omega
        | succ f ih =>
          intro i P wP H locs hif e1 e2 htt hMP hIP hofP hF ls hl
          obtain ⟨hmo, qa0, qa1, qa2, qa3, qa4, qa5, qa6, qa7, qa8, qa9, qa10, qa11, qa12, qa13, qa14, qa15, qa16, qa17, qa18, hinj⟩ := id hMP
          obtain ⟨itb, in6, iti, ila, ibu, ice, ion, ifr, ilo, ire, itk⟩ := id hIP
          refine lv_iload_n hx hb d_Mo_tick_23 rfl (lv_at hl 0 rfl) ?_
          refine lv_iload_n hx hb d_Mo_tick_24 rfl (lv_at hl 2 rfl) ?_
          refine zz_icmp_ge (tgt := 41) hx hb d_Mo_tick_25 (by decide) ⟨by omega, by omega⟩ ⟨by omega, by omega⟩ (fun c25 => ?_) (fun c25 => ?_)
          · exfalso; omega
          · refine lv_aload_n hx hb d_Mo_tick_28 rfl (lv_at hl 1 rfl) ?_
            refine fw_calli (va_runV (As := []) (rest := []) ⟨hx, hb, hml, hown, hts⟩ (c_Mo_unit l g wP H.size b ad P O tb hMP hIP hO (by omega)) (cwV 0 hts (gdV k_Mo_unit t_627 t_629 t_38 t_50) rfl rfl rfl (by decide +kernel) ⟨Nat.le_of_ble_eq_true rfl, Nat.le_of_ble_eq_true rfl⟩) ⟨rwP_blind, fw_recv hK hF.1 hmo rfl, rwP_pre hK hT hA hF⟩ rfl rfl hl.1 rfl (lv_room (Nat.le_of_ble_eq_true rfl)) d_Mo_tick_29 ⟨by decide, by decide⟩) hF hA (fun r3 w1 H locs hp2 hz hF => ?_)
            obtain ⟨k0, k1, k2⟩ := hp2
            subst k0
            refine zb_if_eq (tgt := 41) hx hb d_Mo_tick_32 (by decide) (fun c32 => ?_) (fun c32 => ?_)
            · refine lv_iload_n hx hb d_Mo_tick_41 rfl (lv_at hl 0 rfl) ?_
              refine zz_if_ne (tgt := 50) hx hb d_Mo_tick_42 (by decide) ⟨by omega, by omega⟩ (fun c42 => ?_) (fun c42 => ?_)
              · refine lv_iload_n hx hb d_Mo_tick_50 rfl (lv_at hl 0 rfl) ?_
                have u1 : usM P = true := by cases h9 : usM P with | true => rfl | false => rw [h9] at c32; cases c32
                have q1 : (tmF n.toNat N).1 = i := by rw [e1, tmF, if_pos u1]; rfl
                have q2 : (tmF n.toNat N).2 = P := by rw [e2, tmF, if_pos u1]
                exact rw_iret hx hb hr hlocks d_Mo_tick_51 (by omega) (by omega) hF ⟨congrArg iZ (by rw [tnR, if_neg nz, q1, if_neg (by omega)]), (by rw [tnS, if_neg nz, q2]; exact (by rw [utM, if_pos u1] at k1; exact k1)), (fun q hq => (k2 q hq).trans (hofP q hq))⟩
              · refine lv_bipush (v := iZ (-2)) hx hb d_Mo_tick_45 (by decide) ?_
                refine lv_goto (tgt := 51) hx hb d_Mo_tick_47 (by decide) ?_
                have u1 : usM P = true := by cases h9 : usM P with | true => rfl | false => rw [h9] at c32; cases c32
                have q1 : (tmF n.toNat N).1 = i := by rw [e1, tmF, if_pos u1]; rfl
                have q2 : (tmF n.toNat N).2 = P := by rw [e2, tmF, if_pos u1]
                exact rw_iret hx hb hr hlocks d_Mo_tick_51 (by omega) (by omega) hF ⟨congrArg iZ (by rw [tnR, if_neg nz, q1, if_pos (by omega)]), (by rw [tnS, if_neg nz, q2]; exact (by rw [utM, if_pos u1] at k1; exact k1)), (fun q hq => (k2 q hq).trans (hofP q hq))⟩
            · have u0 : usM P = false := by cases h9 : usM P with | false => rfl | true => rw [h9] at c32; cases c32
              refine lv_iinc (v := iZ (((i : Int)) + 1)) (lv' := [(2, .int (iZ (((i : Int)) + 1))), (0, .ref b), (1, .int (iZ n))]) hx hb d_Mo_tick_35 hl (k := 0) rfl (iZ_add _ _) (by decide) rfl (fun ls hl => ?_)
              refine lv_goto (tgt := 23) hx hb d_Mo_tick_38 (by decide) ?_
              exact ih (i + 1) (uvM P) w1 H locs (by omega) (by rw [e1, tmF, if_neg (by rw [u0]; decide)]; omega) (by rw [e2, tmF, if_neg (by rw [u0]; decide)]) (by rw [(uvM_same P).2]; omega) (by rw [utM, if_neg (by rw [u0]; decide)] at k1; exact k1) (MoI_uvM hIP u0 (by omega)) (fun q hq => (k2 q hq).trans (hofP q hq)) hF ls (lv_sub hl [0, 1, 2] rfl)
      exact lp n.toNat 0 N w s.heap [] (by omega) (by omega) rfl (by omega) hM0 hI0 (fun q _ => rfl) hF ls (lv_sub hl [0, 1, 2] rfl)
    · refine lv_iconst (v := iZ (-1)) hx hb d_Mo_tick_19 rfl ?_
      exact rw_iret hx hb hr hlocks d_Mo_tick_20 (by omega) (by omega) hF ⟨congrArg iZ (by rw [tnR, if_pos (Or.inr c16)]), (by rw [tnS, if_pos (Or.inr c16)]; exact hM0), fun q _ => rfl⟩
