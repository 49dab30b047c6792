set_option maxHeartbeats 4000000 in
set_option maxRecDepth 100000 in
theorem law_loop {p : Program} {l : Launch} {e : Env} {s : State} {m : MethodId} {below : List Frame} {meth : Method} {c : Code} {b L : Nat} {xs : Nat → Int32} {g : GG} (hL : L ≤ 3072) (C0 : LawC p s m meth c b L xs g) {a b2 : Nat} : ∀ (n i : Nat), i ≤ L → L ≤ i + 6 * n → ∀ (M : CsM) (N : MoM) (w : fw) (H : Heap) (locs : List Loc), fW g (fun q : Nat => s.heap.size ≤ q) s H locs w → LawI g w a b2 M N i → ∀ ls : Array Slot, lv_has ls 4 [(3, .int (iZ (i : Int))), (2, .ref b2), (1, .ref a), (0, .ref b)] → W p l e room_1 s m #[Value.ref b] below meth c H locs (25 + i) (400 + 7 * i) (lw_Z below #[Value.ref b] s) (F0 m 18 ls []) := by
  have hx := C0.1
  have hb := C0.2.1
  have hr := C0.2.2.1
  have hX := C0.2.2.2.2.2.2.1
  have hbl := C0.2.2.2.2.2.2.2.1
  have hlocks := C0.2.2.2.2.2.2.2.2.1
  have hbA : ¬ (fun q : Nat => s.heap.size ≤ q) b := Nat.not_le.mpr hbl
  intro n
  induction n with
  | zero =>
    intro i hi hn M N w H locs hF hV ls hl
    refine lv_iload_n hx hb d_law_18 rfl (lv_at hl 0 rfl) ?_
    refine lv_aload_n hx hb d_law_19 rfl (lv_at hl 3 rfl) ?_
    refine lw_slen hx hb hX hbl hbA hF.2.2 d_law_20 ?_
    refine lv_bipush (v := iZ 6) hx hb d_law_21 (by decide) ?_
    refine zz_isub hx hb d_law_23 ?_
    refine zz_icmp_gt (tgt := 475) hx hb d_law_24 (by decide) ⟨by omega, by omega⟩ ⟨by omega, by omega⟩ (fun c1 => ?_) (fun c1 => ?_)
    · refine lv_iconst (v := 1) hx hb d_law_475 (by decide) ?_
      refine va_forget (fun q hq => hF.2.2.2.2 q hq) ?_
      refine W.widen (k := 606847) (n := 7281706) (by omega) (by omega) ?_
      exact lw_ret hx hb hr hlocks d_law_476
    · exact absurd c1 (by omega)
  | succ n ih =>
    intro i hi hn M N w H locs hF hV ls hl
    refine lv_iload_n hx hb d_law_18 rfl (lv_at hl 0 rfl) ?_
    refine lv_aload_n hx hb d_law_19 rfl (lv_at hl 3 rfl) ?_
    refine lw_slen hx hb hX hbl hbA hF.2.2 d_law_20 ?_
    refine lv_bipush (v := iZ 6) hx hb d_law_21 (by decide) ?_
    refine zz_isub hx hb d_law_23 ?_
    refine zz_icmp_gt (tgt := 475) hx hb d_law_24 (by decide) ⟨by omega, by omega⟩ ⟨by omega, by omega⟩ (fun c1 => ?_) (fun c1 => ?_)
    · refine lv_iconst (v := 1) hx hb d_law_475 (by decide) ?_
      refine va_forget (fun q hq => hF.2.2.2.2 q hq) ?_
      refine W.widen (k := 606847) (n := 7281706) (by omega) (by omega) ?_
      exact lw_ret hx hb hr hlocks d_law_476
    · have hi6 : i + 6 ≤ L := by omega
      have kk : ∀ (H1 : Heap) (locs1 : List Loc) (w1 : fw) (M1 : CsM) (N1 : MoM), fW g (fun q : Nat => s.heap.size ≤ q) s H1 locs1 w1 → LawI g w1 a b2 M1 N1 (i + 6) → W p l e room_1 s m #[Value.ref b] below meth c H1 locs1 (25 + (i + 6)) (400 + 7 * (i + 6)) (lw_Z below #[Value.ref b] s) (F0 m 469 ls []) := by
        intro H1 locs1 w1 M1 N1 hF1 hV1
        refine lv_iinc (v := iZ ((i : Int) + 6)) (lv' := [(3, .int (iZ ((i : Int) + 6))), (2, .ref b2), (1, .ref a), (0, .ref b)]) hx hb d_law_469 hl (k := 0) rfl (iZ_add _ _) (by decide) rfl (fun ls hl => ?_)
        refine lv_goto (tgt := 18) hx hb d_law_472 (by decide) ?_
        exact ih (i + 6) hi6 (by omega) M1 N1 w1 H1 locs1 hF1 hV1 ls hl
      obtain ⟨v0, e0, r0⟩ := iZ_ex (xs ((i : Nat) : Int).toNat)
      refine lv_aload_n hx hb d_law_27 rfl (lv_at hl 3 rfl) ?_
      refine lv_iload_n hx hb d_law_28 rfl (lv_at hl 0 rfl) ?_
      refine lw_sld hx hb hX hbl hbA hF.2.2 hL (by omega) (by omega) e0 d_law_29 ?_
      refine lv_bipush (v := iZ 15) hx hb d_law_30 (by decide) ?_
      refine lv_iand hx hb d_law_32 ?_
      obtain ⟨z, ez, hz⟩ := iZ_ex (iZ v0 &&& iZ 15)
      rw [ez]
      have sw : z = 0 ∨ z = 1 ∨ z = 2 ∨ z = 3 ∨ z = 4 ∨ z = 5 ∨ z = 6 ∨ z = 7 ∨ z = 8 ∨ z = 9 ∨ z = 10 ∨ z = 11 ∨ z = 12 ∨ (z < 0 ∨ 12 < z) := by omega
      rcases sw with s1 | s1 | s1 | s1 | s1 | s1 | s1 | s1 | s1 | s1 | s1 | s1 | s1 | s1
      · refine zz_tableIn (tgt := 100) (off := 67) hx hb d_law_33 hz 0 (by omega) (by omega) rfl (by decide) ?_
        exact lc_define hL C0 hi6 hF hV hl kk
      · refine zz_tableIn (tgt := 163) (off := 130) hx hb d_law_33 hz 1 (by omega) (by omega) rfl (by decide) ?_
        exact lc_ceiling hL C0 hi6 hF hV hl kk
      · refine zz_tableIn (tgt := 196) (off := 163) hx hb d_law_33 hz 2 (by omega) (by omega) rfl (by decide) ?_
        exact lc_section hL C0 hi6 hF hV hl kk
      · refine zz_tableIn (tgt := 249) (off := 216) hx hb d_law_33 hz 3 (by omega) (by omega) rfl (by decide) ?_
        exact lc_start hL C0 hi6 hF hV hl kk
      · refine zz_tableIn (tgt := 262) (off := 229) hx hb d_law_33 hz 4 (by omega) (by omega) rfl (by decide) ?_
        exact lc_event hL C0 hi6 hF hV hl kk
      · refine zz_tableIn (tgt := 285) (off := 252) hx hb d_law_33 hz 5 (by omega) (by omega) rfl (by decide) ?_
        exact lc_tick hL C0 hi6 hF hV hl kk
      · refine zz_tableIn (tgt := 308) (off := 275) hx hb d_law_33 hz 6 (by omega) (by omega) rfl (by decide) ?_
        exact lc_ran hL C0 hi6 hF hV hl kk
      · refine zz_tableIn (tgt := 321) (off := 288) hx hb d_law_33 hz 7 (by omega) (by omega) rfl (by decide) ?_
        exact lc_tell hL C0 hi6 hF hV hl kk
      · refine zz_tableIn (tgt := 354) (off := 321) hx hb d_law_33 hz 8 (by omega) (by omega) rfl (by decide) ?_
        exact lc_holder hL C0 hi6 hF hV hl kk
      · refine zz_tableIn (tgt := 377) (off := 344) hx hb d_law_33 hz 9 (by omega) (by omega) rfl (by decide) ?_
        exact lc_blocking hL C0 hi6 hF hV hl kk
      · refine zz_tableIn (tgt := 400) (off := 367) hx hb d_law_33 hz 10 (by omega) (by omega) rfl (by decide) ?_
        exact lc_bound hL C0 hi6 hF hV hl kk
      · refine zz_tableIn (tgt := 423) (off := 390) hx hb d_law_33 hz 11 (by omega) (by omega) rfl (by decide) ?_
        exact lc_timeline hL C0 hi6 hF hV hl kk
      · refine zz_tableIn (tgt := 446) (off := 413) hx hb d_law_33 hz 12 (by omega) (by omega) rfl (by decide) ?_
        exact lc_count hL C0 hi6 hF hV hl kk
      · refine zz_tableOut (tgt := 469) hx hb d_law_33 hz s1 (by decide) ?_
        obtain ⟨A, ad, hC, hO, hM, hR, ht⟩ := hV
        exact W.widen (by omega) (by omega) (kk H locs w M N hF ⟨A, ad, hC, hO, hM, hR, by omega⟩)
