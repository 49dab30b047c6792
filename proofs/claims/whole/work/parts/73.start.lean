set_option maxHeartbeats 4000000 in
set_option maxRecDepth 100000 in
theorem lw_KK {s : State} {args : Array Value} (hts : ∀ w ∈ lw_tbl, w.before args s = true) : ∃ (gD : va_G) (cI cO : ClassId), ∀ t : Nat, KK (gD, cI, cO, t) s := by
  obtain ⟨c0, iS0, hKn0⟩ := u_known (C := rHi) (T := fHi) (N := 6) (n := 6) (fun w hw => hts w (tbG_lw hw)) iHi (hts _ (tbG_lw t_95))
  obtain ⟨c1, iS1, hKn1⟩ := u_known (C := rJq) (T := fJq) (N := 8) (n := 8) (fun w hw => hts w (tbG_lw hw)) iJq (hts _ (tbG_lw t_157))
  obtain ⟨c2, iS2, hKn2⟩ := u_known (C := rSe) (T := fSe) (N := 3) (n := 3) (fun w hw => hts w (tbG_lw hw)) iSe (hts _ (tbG_lw t_324))
  obtain ⟨c3, iS3, hKn3⟩ := u_known (C := rTa) (T := fTa) (N := 8) (n := 8) (fun w hw => hts w (tbG_lw hw)) iTa (hts _ (tbG_lw t_149))
  obtain ⟨c4, iS4, hKn4⟩ := u_known (C := rCs) (T := fCs) (N := 4) (n := 4) (fun w hw => hts w (tbG_lw hw)) iCs (hts _ (tbG_lw t_61))
  obtain ⟨c5, iS5, hKn5⟩ := u_known (C := rMo) (T := fMo) (N := 26) (n := 26) (fun w hw => hts w (tbG_lw hw)) iMo (hts _ (tbG_lw t_503))
  obtain ⟨c6, iS6, hKn6⟩ := u_known (C := rAL) (T := fAL) (N := 3) (n := 3) (fun w hw => hts w (tbG_lw hw)) iAL (hts _ (tbG_lw t_69))
  obtain ⟨cI, kI, cpI, hI1, hI2, hI3⟩ := Cond.arrayClass_spec (hts (.arrayClass .int) (by decide +kernel))
  have hover := hts (.arrayOver (.object obj)) (by decide +kernel)
  obtain ⟨cpO, cO, kO, hO1, hO2, hO3, hO4, hO5⟩ := Cond.arrayOver_spec hover
  refine ⟨(fun k => if k = 0 then c0 else if k = 1 then c1 else if k = 2 then c2 else if k = 3 then c3 else if k = 4 then c4 else if k = 5 then c5 else c6, fun k => if k = 0 then iS0 else if k = 1 then iS1 else if k = 2 then iS2 else if k = 3 then iS3 else if k = 4 then iS4 else if k = 5 then iS5 else iS6), cI, cO, fun t => ⟨⟨?_, ?_⟩, ?_, va_AO.of hover⟩⟩
  · intro k q hq
    match k, hq with
    | 0, hq => cases hq; exact hKn0
    | 1, hq => cases hq; exact hKn1
    | 2, hq => cases hq; exact hKn2
    | 3, hq => cases hq; exact hKn3
    | 4, hq => cases hq; exact hKn4
    | 5, hq => cases hq; exact hKn5
    | 6, hq => cases hq; exact hKn6
    | k + 7, hq => simp [vwCl] at hq
  · intro k q hq
    match k, hq with
    | 0, hq => cases hq; exact ⟨fun n z => ⟨(fun k h => by cases h), kI, hI2, cpI, hI3⟩, hI1⟩
    | 1, hq => cases hq; exact ⟨fun n z => ⟨(fun k h => by cases h), kO, hO3, cpO, hO4⟩, kO, cpO, hO3, hO4, hO1, hO5⟩
    | k + 2, hq => simp at hq
  · intro x hx
    have h1 := hts x (List.mem_filter.mp hx).1
    have h2 := nwL_ok x hx
    cases x <;> first
      | exact va_Nw.of rfl h1
      | exact absurd h2 (by simp [nwOk])
set_option maxHeartbeats 4000000 in
set_option maxRecDepth 100000 in
theorem lw_ST {s : State} {args : Array Value} (hts : ∀ w ∈ lw_tbl, w.before args s = true) (hgv : (Jvm.Cond.and given_1 narrow_1).before args s = true) : ∃ t : Nat, ∀ (gD : va_G) (cI cO : ClassId), ST (gD, cI, cO, t) (fun q : Nat => s.heap.size ≤ q) s s.heap := by
  have hs := flat_of_before _ hgv
  have hA : ∀ a : Nat, a < s.heap.size → ¬ (fun q : Nat => s.heap.size ≤ q) a := fun a h => Nat.not_le.mpr h
  have h1 : (Cond.arrayOf (.static "java/util/ArrayList" "DEFAULTCAPACITY_EMPTY_ELEMENTDATA" "[Ljava/lang/Object;") (.object "java/lang/Object")).before args s = true := hs _ (by decide +kernel)
  have h2 : (Cond.eq (.length (.static "java/util/ArrayList" "DEFAULTCAPACITY_EMPTY_ELEMENTDATA" "[Ljava/lang/Object;")) (.int 0)).before args s = true := hs _ (by decide +kernel)
  obtain ⟨t, ht, hT⟩ := va_Tof (N := 0) (f := fun _ => .null) (A := fun q : Nat => s.heap.size ≤ q) (by decide) h1 (va_eqt h2) (fun j hj => absurd hj (Nat.not_lt_zero j)) hA
  exact ⟨t, fun gD cI cO => ⟨va_Zof (hts _ (by decide +kernel)) (hts _ (by decide +kernel)) ht hA, hT⟩⟩
set_option maxHeartbeats 4000000 in
set_option maxRecDepth 100000 in
/-- THE LAW, from its entry -/
theorem whole_start {p : Program} {e : Env} {s : State} {m : MethodId} {below : List Frame} {meth : Method} {c : Code} (l : Launch) {b L : Nat} {xs : Nat → Int32} (hL : L ≤ 3072) (C0 : lw_At p s m meth c b L xs) : W p l e room_1 s m #[Value.ref b] below meth c s.heap [] 0 0 (lw_Z below #[Value.ref b] s) (entryFrame m ([Value.ref b] : List Value).toArray 4) := by
  obtain ⟨hx, hb, hr, hml, hown, hts0, hX, hbl, hlocks, hgv⟩ := id C0
  have hown : s.vm.findClass "CeilingSchedulerLaw" = some m.cls := hown
  have hA : ∀ q : Nat, s.heap.size ≤ q → (fun q : Nat => s.heap.size ≤ q) q := fun _ h => h
  obtain ⟨gD, cI, cO, hK⟩ := lw_KK hts0
  obtain ⟨t, hT⟩ := lw_ST hts0 hgv
  obtain ⟨g, hK, hT⟩ : ∃ g : GG, KK g s ∧ ST g (fun q : Nat => s.heap.size ≤ q) s s.heap := ⟨(gD, cI, cO, t), hK t, hT gD cI cO⟩
  have hts : ∀ w ∈ tbG, w.before #[Value.ref b] s = true := fun w hw => hts0 w (tbG_lw hw)
  have hF : fW g (fun q : Nat => s.heap.size ≤ q) s s.heap [] (fun _ => none) := ⟨(fun a x h => nomatch h), (fun a x h => nomatch h), va_S.rf⟩
  have hl := lv_entry ([.ref b]) (n := 4) (Nat.le_of_ble_eq_true rfl)
  rw [lg_entry_eq]
  generalize (lg_sl ([.ref b]) ++ List.replicate (4 - (lg_sl ([.ref b])).length) Slot.unset).toArray = ls at hl ⊢
  have hl : lv_has ls 4 [(0, .ref b)] := hl
  refine fw_new (ci := 4) (fs := [.null, .null, .null, .int (bZ false)]) (C := rCs) (T := fCs) (N := 4) hx hb hts iCs yCs_t yCs_ok hown (hts _ t_60) (hts _ t_61) (hts _ t_45) hK hF hA rfl dv_Cs (Nat.le_of_ble_eq_true rfl) (Nat.le_of_ble_eq_true rfl) d_law_0 (fun a H na hF => ?_)
  obtain ⟨w1, ew1⟩ : ∃ zw : fw, zw = fU (fun _ => none) a (.inr (4, [.null, .null, .null, .int (bZ false)])) := ⟨_, rfl⟩
  have hF := fW_to ew1 hF
  have h1 : w1 a = some (.inr (4, [.null, .null, .null, .int (bZ false)])) := by rw [ew1]; exact fU_s _ _ _
  refine lv_dup hx hb d_law_3 rfl ?_
  refine fw_callv (va_runI (As := []) (rest := [.ref a]) ⟨hx, hb, hml, hown, hts⟩ (c_Cs_init l g w1 H.size a h1) (cwI 0 hts (gdT k_Cs_init) rfl rfl rfl (hts _ t_45) (hts _ t_62) (hts _ t_63) rfl (by decide +kernel) ⟨Nat.le_of_ble_eq_true rfl, Nat.le_of_ble_eq_true rfl⟩) ⟨rwP_blind, rwP_pre hK hT hA hF⟩ rfl rfl hl.1 rfl (lv_room (Nat.le_of_ble_eq_true rfl)) d_law_4 ⟨Nat.le_of_ble_eq_true rfl, Nat.le_of_ble_eq_true rfl⟩) hF hA (fun w2 H locs hp hz hF => ?_)
  obtain ⟨A, hC, -, -⟩ := hp
  refine lv_astore_n (lv' := [(1, .ref a), (0, .ref b)]) hx hb d_law_7 rfl hl (by decide) rfl (fun ls hl => ?_)
  refine fw_new (ci := 5) (fs := [.int (iZ 0), .int (iZ 0), .int (iZ 0), .int (iZ 0), .int (iZ 0), .int (iZ 0), .int (bZ false), .null, .null, .null, .null, .null, .null, .null, .null, .null, .null, .null, .null, .null, .null, .null, .null, .null, .null, .null]) (C := rMo) (T := fMo) (N := 26) hx hb hts iMo yMo_t yMo_ok hown (hts _ t_502) (hts _ t_503) (hts _ t_50) hK hF hA rfl dv_Mo (Nat.le_of_ble_eq_true rfl) (Nat.le_of_ble_eq_true rfl) d_law_8 (fun b2 H nb hF => ?_)
  obtain ⟨w3, ew3⟩ : ∃ zw : fw, zw = fU w2 b2 (.inr (5, [.int (iZ 0), .int (iZ 0), .int (iZ 0), .int (iZ 0), .int (iZ 0), .int (iZ 0), .int (bZ false), .null, .null, .null, .null, .null, .null, .null, .null, .null, .null, .null, .null, .null, .null, .null, .null, .null, .null, .null])) := ⟨_, rfl⟩
  have hF := fW_to ew3 hF
  have h3 : w3 b2 = some (.inr (5, [.int (iZ 0), .int (iZ 0), .int (iZ 0), .int (iZ 0), .int (iZ 0), .int (iZ 0), .int (bZ false), .null, .null, .null, .null, .null, .null, .null, .null, .null, .null, .null, .null, .null, .null, .null, .null, .null, .null, .null])) := by rw [ew3]; exact fU_s _ _ _
  refine lv_dup hx hb d_law_11 rfl ?_
  refine fw_callv (va_runI (As := []) (rest := [.ref b2]) ⟨hx, hb, hml, hown, hts⟩ (c_Mo_init l g w3 H.size b2 h3) (cwI 0 hts (gdT k_Mo_init) rfl rfl rfl (hts _ t_50) (hts _ t_504) (hts _ t_505) rfl (by decide +kernel) ⟨Nat.le_of_ble_eq_true rfl, Nat.le_of_ble_eq_true rfl⟩) ⟨rwP_blind, rwP_pre hK hT hA hF⟩ rfl rfl hl.1 rfl (lv_room (Nat.le_of_ble_eq_true rfl)) d_law_12 ⟨Nat.le_of_ble_eq_true rfl, Nat.le_of_ble_eq_true rfl⟩) hF hA (fun w4 H locs hp hz hF => ?_)
  obtain ⟨ad, hM, hn, ho⟩ := hp
  refine lv_astore_n (lv' := [(2, .ref b2), (1, .ref a), (0, .ref b)]) hx hb d_law_15 rfl hl (by decide) rfl (fun ls hl => ?_)
  refine lv_iconst (v := iZ 0) hx hb d_law_16 rfl ?_
  refine lv_istore_n (lv' := [(3, .int (iZ 0)), (2, .ref b2), (1, .ref a), (0, .ref b)]) hx hb d_law_17 rfl hl (by decide) rfl (fun ls hl => ?_)
  have k3 : ∀ q, w2 q ≠ none → w3 q = w2 q := fun q hq => by rw [ew3]; exact fU_n (fun z => hq (by rw [z]; exact nb))
  have k4 : ∀ q, w2 q ≠ none → w4 q = w2 q := fun q hq => (ho q (fun z => hq (by rw [z]; exact nb)) (by rw [k3 q hq]; exact hq)).trans (k3 q hq)
  have hC4 : CsP g w4 a A csM0 := hC.keepO hC.own k4 (fun q fs hq => k4 q (fun z => nomatch hq.symm.trans z))
  have hO4 : CsO (fun y => ¬ mOw b2 ad y) a A csM0 := hC.own.mono (fun y hy z => by
    rcases z with e1 | ⟨k, hk, e1⟩
    · exact hy (by rw [e1]; exact nb)
    · have := hn k hk
      rw [← e1, k3 y hy] at this
      exact hy this)
  refine W.widen (k := 25 + 0) (n := 400 + 7 * 0) (Nat.le_of_ble_eq_true rfl) (Nat.le_of_ble_eq_true rfl) ?_
  exact law_loop hL ⟨hx, hb, hr, hml, hown, hts, hX, hbl, hlocks, hK, hT⟩ L 0 (Nat.zero_le L) (by omega) csM0 moN0 w4 H locs hF ⟨A, ad, hC4, hO4, hM, rr_init (by decide) (by decide), by decide⟩ ls hl
