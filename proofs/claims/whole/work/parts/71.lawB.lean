set_option maxHeartbeats 4000000 in
set_option maxRecDepth 100000 in
theorem lc_ran {p : Program} {l : Launch} {e : Env} {s : State} {m : MethodId} {below : List Frame} {meth : Method} {c : Code} {b L : Nat} {xs : Nat → Int32} {g : GG} (hL : L ≤ 3072) (C0 : LawC p s m meth c b L xs g) {a b2 i : Nat} {M : CsM} {N : MoM} {w : fw} {H : Heap} {locs : List Loc} {ls : Array Slot} (hi : i + 6 ≤ L) (hF : fW g (fun q : Nat => s.heap.size ≤ q) s H locs w) (hV : LawI g w a b2 M N i) (hl : lv_has ls 4 [(3, .int (iZ (i : Int))), (2, .ref b2), (1, .ref a), (0, .ref b)])
    (kk : ∀ (H1 : Heap) (locs1 : List Loc) (w1 : fw) (M1 : CsM) (N1 : MoM), fW g (fun q : Nat => s.heap.size ≤ q) s H1 locs1 w1 → LawI g w1 a b2 M1 N1 (i + 6) → W p l e room_1 s m #[Value.ref b] below meth c H1 locs1 (25 + (i + 6)) (400 + 7 * (i + 6)) (lw_Z below #[Value.ref b] s) (F0 m 469 ls [])) : W p l e room_1 s m #[Value.ref b] below meth c H locs (25 + i) (400 + 7 * i) (lw_Z below #[Value.ref b] s) (F0 m 308 ls []) := by
  obtain ⟨hx, hb, hr, hml, hown, hts, hX, hbl, hlocks, hK, hT⟩ := C0
  have hA : ∀ q : Nat, s.heap.size ≤ q → (fun q : Nat => s.heap.size ≤ q) q := fun _ h => h
  have hbA : ¬ (fun q : Nat => s.heap.size ≤ q) b := Nat.not_le.mpr hbl
  obtain ⟨A, ad, hC, hO, hM, hR, ht⟩ := hV
  refine lv_aload_n hx hb d_law_308 rfl (lv_at hl 2 rfl) ?_
  refine fw_ro (r := .int (iZ (hLr (mHi M)))) (va_runV (As := []) (rest := []) ⟨hx, hb, hml, hown, hts⟩ (c_Cs_ran l g w a A M 102400 hC hR.2.2.1) (cwV 0 hts (gdV k_Cs_ran t_434 t_435 t_436 t_45) rfl rfl rfl (by decide +kernel) ⟨Nat.le_of_ble_eq_true rfl, Nat.le_of_ble_eq_true rfl⟩) ⟨roP_blind, fw_recv hK hF.1 hC.c0 rfl, roP_pre hK hF.1⟩ rfl rfl hl.1 rfl (lv_room (Nat.le_of_ble_eq_true rfl)) d_law_309 ⟨(show 25 + i + 0 ≤ 606847 by omega), (show 400 + 7 * i + 0 ≤ 7281706 by omega)⟩) ?_
  refine lv_aload_n hx hb d_law_312 rfl (lv_at hl 1 rfl) ?_
  refine fw_ro (r := .int (iZ (nLa N))) (va_runV (As := []) (rest := [.int (iZ (hLr (mHi M)))]) ⟨hx, hb, hml, hown, hts⟩ (c_Mo_ran l g w b2 ad N 102400 hM hR.2.2.2) (cwV 0 hts (gdV k_Mo_ran t_651 t_652 t_653 t_50) rfl rfl rfl (by decide +kernel) ⟨Nat.le_of_ble_eq_true rfl, Nat.le_of_ble_eq_true rfl⟩) ⟨roP_blind, fw_recv hK hF.1 hM.1 rfl, roP_pre hK hF.1⟩ rfl rfl hl.1 rfl (lv_room (Nat.le_of_ble_eq_true rfl)) d_law_313 ⟨(show 25 + i + 0 ≤ 606847 by omega), (show 400 + 7 * i + 0 ≤ 7281706 by omega)⟩) ?_
  have heq : iZ (hLr (mHi M)) = iZ (nLa N) := congrArg iZ (hR.1.1.2.2.2.2.1.symm)
  refine lv_icmp_eq (tgt := 469) hx hb d_law_316 (by decide) (fun _ => ?_) (fun cc => absurd heq cc)
  exact W.widen (by omega) (by omega) (kk H locs w M N hF ⟨A, ad, hC, hO, hM, hR, by omega⟩)
set_option maxHeartbeats 4000000 in
set_option maxRecDepth 100000 in
theorem lc_tell {p : Program} {l : Launch} {e : Env} {s : State} {m : MethodId} {below : List Frame} {meth : Method} {c : Code} {b L : Nat} {xs : Nat → Int32} {g : GG} (hL : L ≤ 3072) (C0 : LawC p s m meth c b L xs g) {a b2 i : Nat} {M : CsM} {N : MoM} {w : fw} {H : Heap} {locs : List Loc} {ls : Array Slot} (hi : i + 6 ≤ L) (hF : fW g (fun q : Nat => s.heap.size ≤ q) s H locs w) (hV : LawI g w a b2 M N i) (hl : lv_has ls 4 [(3, .int (iZ (i : Int))), (2, .ref b2), (1, .ref a), (0, .ref b)])
    (kk : ∀ (H1 : Heap) (locs1 : List Loc) (w1 : fw) (M1 : CsM) (N1 : MoM), fW g (fun q : Nat => s.heap.size ≤ q) s H1 locs1 w1 → LawI g w1 a b2 M1 N1 (i + 6) → W p l e room_1 s m #[Value.ref b] below meth c H1 locs1 (25 + (i + 6)) (400 + 7 * (i + 6)) (lw_Z below #[Value.ref b] s) (F0 m 469 ls [])) : W p l e room_1 s m #[Value.ref b] below meth c H locs (25 + i) (400 + 7 * i) (lw_Z below #[Value.ref b] s) (F0 m 321 ls []) := by
  obtain ⟨hx, hb, hr, hml, hown, hts, hX, hbl, hlocks, hK, hT⟩ := C0
  have hA : ∀ q : Nat, s.heap.size ≤ q → (fun q : Nat => s.heap.size ≤ q) q := fun _ h => h
  have hbA : ¬ (fun q : Nat => s.heap.size ≤ q) b := Nat.not_le.mpr hbl
  obtain ⟨A, ad, hC, hO, hM, hR, ht⟩ := hV
  obtain ⟨v1, e1, r1⟩ := iZ_ex (xs ((i : Int) + 1).toNat)
  obtain ⟨v2, e2, r2⟩ := iZ_ex (xs ((i : Int) + 2).toNat)
  refine lv_aload_n hx hb d_law_321 rfl (lv_at hl 2 rfl) ?_
  refine lv_aload_n hx hb d_law_322 rfl (lv_at hl 3 rfl) ?_
  refine lv_iload_n hx hb d_law_323 rfl (lv_at hl 0 rfl) ?_
  refine lv_iconst (v := iZ 1) hx hb d_law_324 rfl ?_
  refine zz_iadd hx hb d_law_325 ?_
  refine lw_sld hx hb hX hbl hbA hF.2.2 hL (by omega) (by omega) e1 d_law_326 ?_
  refine lv_aload_n hx hb d_law_327 rfl (lv_at hl 3 rfl) ?_
  refine lv_iload_n hx hb d_law_328 rfl (lv_at hl 0 rfl) ?_
  refine lv_iconst (v := iZ 2) hx hb d_law_329 rfl ?_
  refine zz_iadd hx hb d_law_330 ?_
  refine lw_sld hx hb hX hbl hbA hF.2.2 hL (by omega) (by omega) e2 d_law_331 ?_
  refine fw_ro (r := .int (iZ (tlM M v1 v2))) (va_runV (As := [.int (iZ v1), .int (iZ v2)]) (rest := []) ⟨hx, hb, hml, hown, hts⟩ (c_Cs_tell l g w a A M 102400 v1 v2 hC hR.2.2.1 r1 r2) (cwV 2 hts (gdV k_Cs_tell t_438 t_439 t_440 t_45) rfl rfl rfl (by decide +kernel) ⟨Nat.le_of_ble_eq_true rfl, Nat.le_of_ble_eq_true rfl⟩) ⟨roP_blind, fw_recv hK hF.1 hC.c0 rfl, roP_pre hK hF.1⟩ rfl rfl hl.1 rfl (lv_room (Nat.le_of_ble_eq_true rfl)) d_law_332 ⟨(show 25 + i + 0 ≤ 606847 by omega), (show 400 + 7 * i + 0 ≤ 7281706 by omega)⟩) ?_
  refine lv_aload_n hx hb d_law_335 rfl (lv_at hl 1 rfl) ?_
  refine lv_aload_n hx hb d_law_336 rfl (lv_at hl 3 rfl) ?_
  refine lv_iload_n hx hb d_law_337 rfl (lv_at hl 0 rfl) ?_
  refine lv_iconst (v := iZ 1) hx hb d_law_338 rfl ?_
  refine zz_iadd hx hb d_law_339 ?_
  refine lw_sld hx hb hX hbl hbA hF.2.2 hL (by omega) (by omega) e1 d_law_340 ?_
  refine lv_aload_n hx hb d_law_341 rfl (lv_at hl 3 rfl) ?_
  refine lv_iload_n hx hb d_law_342 rfl (lv_at hl 0 rfl) ?_
  refine lv_iconst (v := iZ 2) hx hb d_law_343 rfl ?_
  refine zz_iadd hx hb d_law_344 ?_
  refine lw_sld hx hb hX hbl hbA hF.2.2 hL (by omega) (by omega) e2 d_law_345 ?_
  refine fw_ro (r := .int (iZ (tnM N v1 v2))) (va_runV (As := [.int (iZ v1), .int (iZ v2)]) (rest := [.int (iZ (tlM M v1 v2))]) ⟨hx, hb, hml, hown, hts⟩ (c_Mo_tell l g w b2 ad N 102400 v1 v2 hM hR.2.2.2 r1 r2) (cwV 2 hts (gdV k_Mo_tell t_655 t_656 t_657 t_50) rfl rfl rfl (by decide +kernel) ⟨Nat.le_of_ble_eq_true rfl, Nat.le_of_ble_eq_true rfl⟩) ⟨roP_blind, fw_recv hK hF.1 hM.1 rfl, roP_pre hK hF.1⟩ rfl rfl hl.1 rfl (lv_room (Nat.le_of_ble_eq_true rfl)) d_law_346 ⟨(show 25 + i + 0 ≤ 606847 by omega), (show 400 + 7 * i + 0 ≤ 7281706 by omega)⟩) ?_
  have heq : iZ (tlM M v1 v2) = iZ (tnM N v1 v2) := congrArg iZ (tl_eq hR.1 hR.2.2.1 v1 v2)
  refine lv_icmp_eq (tgt := 469) hx hb d_law_349 (by decide) (fun _ => ?_) (fun cc => absurd heq cc)
  exact W.widen (by omega) (by omega) (kk H locs w M N hF ⟨A, ad, hC, hO, hM, hR, by omega⟩)
set_option maxHeartbeats 4000000 in
set_option maxRecDepth 100000 in
theorem lc_holder {p : Program} {l : Launch} {e : Env} {s : State} {m : MethodId} {below : List Frame} {meth : Method} {c : Code} {b L : Nat} {xs : Nat → Int32} {g : GG} (hL : L ≤ 3072) (C0 : LawC p s m meth c b L xs g) {a b2 i : Nat} {M : CsM} {N : MoM} {w : fw} {H : Heap} {locs : List Loc} {ls : Array Slot} (hi : i + 6 ≤ L) (hF : fW g (fun q : Nat => s.heap.size ≤ q) s H locs w) (hV : LawI g w a b2 M N i) (hl : lv_has ls 4 [(3, .int (iZ (i : Int))), (2, .ref b2), (1, .ref a), (0, .ref b)])
    (kk : ∀ (H1 : Heap) (locs1 : List Loc) (w1 : fw) (M1 : CsM) (N1 : MoM), fW g (fun q : Nat => s.heap.size ≤ q) s H1 locs1 w1 → LawI g w1 a b2 M1 N1 (i + 6) → W p l e room_1 s m #[Value.ref b] below meth c H1 locs1 (25 + (i + 6)) (400 + 7 * (i + 6)) (lw_Z below #[Value.ref b] s) (F0 m 469 ls [])) : W p l e room_1 s m #[Value.ref b] below meth c H locs (25 + i) (400 + 7 * i) (lw_Z below #[Value.ref b] s) (F0 m 354 ls []) := by
  obtain ⟨hx, hb, hr, hml, hown, hts, hX, hbl, hlocks, hK, hT⟩ := C0
  have hA : ∀ q : Nat, s.heap.size ≤ q → (fun q : Nat => s.heap.size ≤ q) q := fun _ h => h
  have hbA : ¬ (fun q : Nat => s.heap.size ≤ q) b := Nat.not_le.mpr hbl
  obtain ⟨A, ad, hC, hO, hM, hR, ht⟩ := hV
  obtain ⟨v1, e1, r1⟩ := iZ_ex (xs ((i : Int) + 1).toNat)
  refine lv_aload_n hx hb d_law_354 rfl (lv_at hl 2 rfl) ?_
  refine lv_aload_n hx hb d_law_355 rfl (lv_at hl 3 rfl) ?_
  refine lv_iload_n hx hb d_law_356 rfl (lv_at hl 0 rfl) ?_
  refine lv_iconst (v := iZ 1) hx hb d_law_357 rfl ?_
  refine zz_iadd hx hb d_law_358 ?_
  refine lw_sld hx hb hX hbl hbA hF.2.2 hL (by omega) (by omega) e1 d_law_359 ?_
  refine fw_ro (r := .int (iZ (hoM M v1))) (va_runV (As := [.int (iZ v1)]) (rest := []) ⟨hx, hb, hml, hown, hts⟩ (c_Cs_holder l g w a A M 102400 v1 hC hR.2.2.1 r1) (cwV 1 hts (gdV k_Cs_holder t_446 t_447 t_448 t_45) rfl rfl rfl (by decide +kernel) ⟨Nat.le_of_ble_eq_true rfl, Nat.le_of_ble_eq_true rfl⟩) ⟨roP_blind, fw_recv hK hF.1 hC.c0 rfl, roP_pre hK hF.1⟩ rfl rfl hl.1 rfl (lv_room (Nat.le_of_ble_eq_true rfl)) d_law_360 ⟨(show 25 + i + 0 ≤ 606847 by omega), (show 400 + 7 * i + 0 ≤ 7281706 by omega)⟩) ?_
  refine lv_aload_n hx hb d_law_363 rfl (lv_at hl 1 rfl) ?_
  refine lv_aload_n hx hb d_law_364 rfl (lv_at hl 3 rfl) ?_
  refine lv_iload_n hx hb d_law_365 rfl (lv_at hl 0 rfl) ?_
  refine lv_iconst (v := iZ 1) hx hb d_law_366 rfl ?_
  refine zz_iadd hx hb d_law_367 ?_
  refine lw_sld hx hb hX hbl hbA hF.2.2 hL (by omega) (by omega) e1 d_law_368 ?_
  refine fw_ro (r := .int (iZ (hnM N v1))) (va_runV (As := [.int (iZ v1)]) (rest := [.int (iZ (hoM M v1))]) ⟨hx, hb, hml, hown, hts⟩ (c_Mo_holder l g w b2 ad N 102400 v1 hM hR.2.2.2 r1) (cwV 1 hts (gdV k_Mo_holder t_659 t_660 t_661 t_50) rfl rfl rfl (by decide +kernel) ⟨Nat.le_of_ble_eq_true rfl, Nat.le_of_ble_eq_true rfl⟩) ⟨roP_blind, fw_recv hK hF.1 hM.1 rfl, roP_pre hK hF.1⟩ rfl rfl hl.1 rfl (lv_room (Nat.le_of_ble_eq_true rfl)) d_law_369 ⟨(show 25 + i + 0 ≤ 606847 by omega), (show 400 + 7 * i + 0 ≤ 7281706 by omega)⟩) ?_
  have heq : iZ (hoM M v1) = iZ (hnM N v1) := congrArg iZ (ho_eq hR.1 hR.2.2.1 v1)
  refine lv_icmp_eq (tgt := 469) hx hb d_law_372 (by decide) (fun _ => ?_) (fun cc => absurd heq cc)
  exact W.widen (by omega) (by omega) (kk H locs w M N hF ⟨A, ad, hC, hO, hM, hR, by omega⟩)
set_option maxHeartbeats 4000000 in
set_option maxRecDepth 100000 in
theorem lc_blocking {p : Program} {l : Launch} {e : Env} {s : State} {m : MethodId} {below : List Frame} {meth : Method} {c : Code} {b L : Nat} {xs : Nat → Int32} {g : GG} (hL : L ≤ 3072) (C0 : LawC p s m meth c b L xs g) {a b2 i : Nat} {M : CsM} {N : MoM} {w : fw} {H : Heap} {locs : List Loc} {ls : Array Slot} (hi : i + 6 ≤ L) (hF : fW g (fun q : Nat => s.heap.size ≤ q) s H locs w) (hV : LawI g w a b2 M N i) (hl : lv_has ls 4 [(3, .int (iZ (i : Int))), (2, .ref b2), (1, .ref a), (0, .ref b)])
    (kk : ∀ (H1 : Heap) (locs1 : List Loc) (w1 : fw) (M1 : CsM) (N1 : MoM), fW g (fun q : Nat => s.heap.size ≤ q) s H1 locs1 w1 → LawI g w1 a b2 M1 N1 (i + 6) → W p l e room_1 s m #[Value.ref b] below meth c H1 locs1 (25 + (i + 6)) (400 + 7 * (i + 6)) (lw_Z below #[Value.ref b] s) (F0 m 469 ls [])) : W p l e room_1 s m #[Value.ref b] below meth c H locs (25 + i) (400 + 7 * i) (lw_Z below #[Value.ref b] s) (F0 m 377 ls []) := by
  obtain ⟨hx, hb, hr, hml, hown, hts, hX, hbl, hlocks, hK, hT⟩ := C0
  have hA : ∀ q : Nat, s.heap.size ≤ q → (fun q : Nat => s.heap.size ≤ q) q := fun _ h => h
  have hbA : ¬ (fun q : Nat => s.heap.size ≤ q) b := Nat.not_le.mpr hbl
  obtain ⟨A, ad, hC, hO, hM, hR, ht⟩ := hV
  obtain ⟨v1, e1, r1⟩ := iZ_ex (xs ((i : Int) + 1).toNat)
  refine lv_aload_n hx hb d_law_377 rfl (lv_at hl 2 rfl) ?_
  refine lv_aload_n hx hb d_law_378 rfl (lv_at hl 3 rfl) ?_
  refine lv_iload_n hx hb d_law_379 rfl (lv_at hl 0 rfl) ?_
  refine lv_iconst (v := iZ 1) hx hb d_law_380 rfl ?_
  refine zz_iadd hx hb d_law_381 ?_
  refine lw_sld hx hb hX hbl hbA hF.2.2 hL (by omega) (by omega) e1 d_law_382 ?_
  refine fw_ro (r := .int (iZ (blM M v1))) (va_runV (As := [.int (iZ v1)]) (rest := []) ⟨hx, hb, hml, hown, hts⟩ (c_Cs_blocking l g w a A M 102400 v1 hC hR.2.2.1 r1) (cwV 1 hts (gdV k_Cs_blocking t_494 t_495 t_496 t_45) rfl rfl rfl (by decide +kernel) ⟨Nat.le_of_ble_eq_true rfl, Nat.le_of_ble_eq_true rfl⟩) ⟨roP_blind, fw_recv hK hF.1 hC.c0 rfl, roP_pre hK hF.1⟩ rfl rfl hl.1 rfl (lv_room (Nat.le_of_ble_eq_true rfl)) d_law_383 ⟨(show 25 + i + 0 ≤ 606847 by omega), (show 400 + 7 * i + 0 ≤ 7281706 by omega)⟩) ?_
  refine lv_aload_n hx hb d_law_386 rfl (lv_at hl 1 rfl) ?_
  refine lv_aload_n hx hb d_law_387 rfl (lv_at hl 3 rfl) ?_
  refine lv_iload_n hx hb d_law_388 rfl (lv_at hl 0 rfl) ?_
  refine lv_iconst (v := iZ 1) hx hb d_law_389 rfl ?_
  refine zz_iadd hx hb d_law_390 ?_
  refine lw_sld hx hb hX hbl hbA hF.2.2 hL (by omega) (by omega) e1 d_law_391 ?_
  refine fw_ro (r := .int (iZ (bvM N v1))) (va_runV (As := [.int (iZ v1)]) (rest := [.int (iZ (blM M v1))]) ⟨hx, hb, hml, hown, hts⟩ (c_Mo_blocking l g w b2 ad N 102400 v1 hM hR.2.2.2 r1) (cwV 1 hts (gdV k_Mo_blocking t_663 t_664 t_665 t_50) rfl rfl rfl (by decide +kernel) ⟨Nat.le_of_ble_eq_true rfl, Nat.le_of_ble_eq_true rfl⟩) ⟨roP_blind, fw_recv hK hF.1 hM.1 rfl, roP_pre hK hF.1⟩ rfl rfl hl.1 rfl (lv_room (Nat.le_of_ble_eq_true rfl)) d_law_392 ⟨(show 25 + i + 0 ≤ 606847 by omega), (show 400 + 7 * i + 0 ≤ 7281706 by omega)⟩) ?_
  have heq : iZ (blM M v1) = iZ (bvM N v1) := congrArg iZ (bl_eq hR.1 hR.2.2.1 v1)
  refine lv_icmp_eq (tgt := 469) hx hb d_law_395 (by decide) (fun _ => ?_) (fun cc => absurd heq cc)
  exact W.widen (by omega) (by omega) (kk H locs w M N hF ⟨A, ad, hC, hO, hM, hR, by omega⟩)
set_option maxHeartbeats 4000000 in
set_option maxRecDepth 100000 in
theorem lc_bound {p : Program} {l : Launch} {e : Env} {s : State} {m : MethodId} {below : List Frame} {meth : Method} {c : Code} {b L : Nat} {xs : Nat → Int32} {g : GG} (hL : L ≤ 3072) (C0 : LawC p s m meth c b L xs g) {a b2 i : Nat} {M : CsM} {N : MoM} {w : fw} {H : Heap} {locs : List Loc} {ls : Array Slot} (hi : i + 6 ≤ L) (hF : fW g (fun q : Nat => s.heap.size ≤ q) s H locs w) (hV : LawI g w a b2 M N i) (hl : lv_has ls 4 [(3, .int (iZ (i : Int))), (2, .ref b2), (1, .ref a), (0, .ref b)])
    (kk : ∀ (H1 : Heap) (locs1 : List Loc) (w1 : fw) (M1 : CsM) (N1 : MoM), fW g (fun q : Nat => s.heap.size ≤ q) s H1 locs1 w1 → LawI g w1 a b2 M1 N1 (i + 6) → W p l e room_1 s m #[Value.ref b] below meth c H1 locs1 (25 + (i + 6)) (400 + 7 * (i + 6)) (lw_Z below #[Value.ref b] s) (F0 m 469 ls [])) : W p l e room_1 s m #[Value.ref b] below meth c H locs (25 + i) (400 + 7 * i) (lw_Z below #[Value.ref b] s) (F0 m 400 ls []) := by
  obtain ⟨hx, hb, hr, hml, hown, hts, hX, hbl, hlocks, hK, hT⟩ := C0
  have hA : ∀ q : Nat, s.heap.size ≤ q → (fun q : Nat => s.heap.size ≤ q) q := fun _ h => h
  have hbA : ¬ (fun q : Nat => s.heap.size ≤ q) b := Nat.not_le.mpr hbl
  obtain ⟨A, ad, hC, hO, hM, hR, ht⟩ := hV
  obtain ⟨v1, e1, r1⟩ := iZ_ex (xs ((i : Int) + 1).toNat)
  refine lv_aload_n hx hb d_law_400 rfl (lv_at hl 2 rfl) ?_
  refine lv_aload_n hx hb d_law_401 rfl (lv_at hl 3 rfl) ?_
  refine lv_iload_n hx hb d_law_402 rfl (lv_at hl 0 rfl) ?_
  refine lv_iconst (v := iZ 1) hx hb d_law_403 rfl ?_
  refine zz_iadd hx hb d_law_404 ?_
  refine lw_sld hx hb hX hbl hbA hF.2.2 hL (by omega) (by omega) e1 d_law_405 ?_
  refine fw_ro (r := .int (iZ (bdM M v1))) (va_runV (As := [.int (iZ v1)]) (rest := []) ⟨hx, hb, hml, hown, hts⟩ (c_Cs_bound l g w a A M 102400 v1 hC hR.2.2.1 r1) (cwV 1 hts (gdV k_Cs_bound t_498 t_499 t_500 t_45) rfl rfl rfl (by decide +kernel) ⟨Nat.le_of_ble_eq_true rfl, Nat.le_of_ble_eq_true rfl⟩) ⟨roP_blind, fw_recv hK hF.1 hC.c0 rfl, roP_pre hK hF.1⟩ rfl rfl hl.1 rfl (lv_room (Nat.le_of_ble_eq_true rfl)) d_law_406 ⟨(show 25 + i + 0 ≤ 606847 by omega), (show 400 + 7 * i + 0 ≤ 7281706 by omega)⟩) ?_
  refine lv_aload_n hx hb d_law_409 rfl (lv_at hl 1 rfl) ?_
  refine lv_aload_n hx hb d_law_410 rfl (lv_at hl 3 rfl) ?_
  refine lv_iload_n hx hb d_law_411 rfl (lv_at hl 0 rfl) ?_
  refine lv_iconst (v := iZ 1) hx hb d_law_412 rfl ?_
  refine zz_iadd hx hb d_law_413 ?_
  refine lw_sld hx hb hX hbl hbA hF.2.2 hL (by omega) (by omega) e1 d_law_414 ?_
  refine fw_ro (r := .int (iZ (bwM N v1))) (va_runV (As := [.int (iZ v1)]) (rest := [.int (iZ (bdM M v1))]) ⟨hx, hb, hml, hown, hts⟩ (c_Mo_bound l g w b2 ad N 102400 v1 hM hR.2.2.2 r1) (cwV 1 hts (gdV k_Mo_bound t_667 t_668 t_669 t_50) rfl rfl rfl (by decide +kernel) ⟨Nat.le_of_ble_eq_true rfl, Nat.le_of_ble_eq_true rfl⟩) ⟨roP_blind, fw_recv hK hF.1 hM.1 rfl, roP_pre hK hF.1⟩ rfl rfl hl.1 rfl (lv_room (Nat.le_of_ble_eq_true rfl)) d_law_415 ⟨(show 25 + i + 0 ≤ 606847 by omega), (show 400 + 7 * i + 0 ≤ 7281706 by omega)⟩) ?_
  have heq : iZ (bdM M v1) = iZ (bwM N v1) := congrArg iZ (bd_eq hR.1 hR.2.2.1 v1)
  refine lv_icmp_eq (tgt := 469) hx hb d_law_418 (by decide) (fun _ => ?_) (fun cc => absurd heq cc)
  exact W.widen (by omega) (by omega) (kk H locs w M N hF ⟨A, ad, hC, hO, hM, hR, by omega⟩)
set_option maxHeartbeats 4000000 in
set_option maxRecDepth 100000 in
theorem lc_timeline {p : Program} {l : Launch} {e : Env} {s : State} {m : MethodId} {below : List Frame} {meth : Method} {c : Code} {b L : Nat} {xs : Nat → Int32} {g : GG} (hL : L ≤ 3072) (C0 : LawC p s m meth c b L xs g) {a b2 i : Nat} {M : CsM} {N : MoM} {w : fw} {H : Heap} {locs : List Loc} {ls : Array Slot} (hi : i + 6 ≤ L) (hF : fW g (fun q : Nat => s.heap.size ≤ q) s H locs w) (hV : LawI g w a b2 M N i) (hl : lv_has ls 4 [(3, .int (iZ (i : Int))), (2, .ref b2), (1, .ref a), (0, .ref b)])
    (kk : ∀ (H1 : Heap) (locs1 : List Loc) (w1 : fw) (M1 : CsM) (N1 : MoM), fW g (fun q : Nat => s.heap.size ≤ q) s H1 locs1 w1 → LawI g w1 a b2 M1 N1 (i + 6) → W p l e room_1 s m #[Value.ref b] below meth c H1 locs1 (25 + (i + 6)) (400 + 7 * (i + 6)) (lw_Z below #[Value.ref b] s) (F0 m 469 ls [])) : W p l e room_1 s m #[Value.ref b] below meth c H locs (25 + i) (400 + 7 * i) (lw_Z below #[Value.ref b] s) (F0 m 423 ls []) := by
  obtain ⟨hx, hb, hr, hml, hown, hts, hX, hbl, hlocks, hK, hT⟩ := C0
  have hA : ∀ q : Nat, s.heap.size ≤ q → (fun q : Nat => s.heap.size ≤ q) q := fun _ h => h
  have hbA : ¬ (fun q : Nat => s.heap.size ≤ q) b := Nat.not_le.mpr hbl
  obtain ⟨A, ad, hC, hO, hM, hR, ht⟩ := hV
  obtain ⟨v1, e1, r1⟩ := iZ_ex (xs ((i : Int) + 1).toNat)
  refine lv_aload_n hx hb d_law_423 rfl (lv_at hl 2 rfl) ?_
  refine lv_aload_n hx hb d_law_424 rfl (lv_at hl 3 rfl) ?_
  refine lv_iload_n hx hb d_law_425 rfl (lv_at hl 0 rfl) ?_
  refine lv_iconst (v := iZ 1) hx hb d_law_426 rfl ?_
  refine zz_iadd hx hb d_law_427 ?_
  refine lw_sld hx hb hX hbl hbA hF.2.2 hL (by omega) (by omega) e1 d_law_428 ?_
  refine fw_ro (r := .int (iZ (tmM M v1))) (va_runV (As := [.int (iZ v1)]) (rest := []) ⟨hx, hb, hml, hown, hts⟩ (c_Cs_timeline l g w a A M 102400 v1 hC hR.2.2.1 r1) (cwV 1 hts (gdV k_Cs_timeline t_450 t_451 t_452 t_45) rfl rfl rfl (by decide +kernel) ⟨Nat.le_of_ble_eq_true rfl, Nat.le_of_ble_eq_true rfl⟩) ⟨roP_blind, fw_recv hK hF.1 hC.c0 rfl, roP_pre hK hF.1⟩ rfl rfl hl.1 rfl (lv_room (Nat.le_of_ble_eq_true rfl)) d_law_429 ⟨(show 25 + i + 0 ≤ 606847 by omega), (show 400 + 7 * i + 0 ≤ 7281706 by omega)⟩) ?_
  refine lv_aload_n hx hb d_law_432 rfl (lv_at hl 1 rfl) ?_
  refine lv_aload_n hx hb d_law_433 rfl (lv_at hl 3 rfl) ?_
  refine lv_iload_n hx hb d_law_434 rfl (lv_at hl 0 rfl) ?_
  refine lv_iconst (v := iZ 1) hx hb d_law_435 rfl ?_
  refine zz_iadd hx hb d_law_436 ?_
  refine lw_sld hx hb hX hbl hbA hF.2.2 hL (by omega) (by omega) e1 d_law_437 ?_
  refine fw_ro (r := .int (iZ (lnM N v1))) (va_runV (As := [.int (iZ v1)]) (rest := [.int (iZ (tmM M v1))]) ⟨hx, hb, hml, hown, hts⟩ (c_Mo_timeline l g w b2 ad N 102400 v1 hM hR.2.2.2 r1) (cwV 1 hts (gdV k_Mo_timeline t_672 t_673 t_674 t_50) rfl rfl rfl (by decide +kernel) ⟨Nat.le_of_ble_eq_true rfl, Nat.le_of_ble_eq_true rfl⟩) ⟨roP_blind, fw_recv hK hF.1 hM.1 rfl, roP_pre hK hF.1⟩ rfl rfl hl.1 rfl (lv_room (Nat.le_of_ble_eq_true rfl)) d_law_438 ⟨(show 25 + i + 0 ≤ 606847 by omega), (show 400 + 7 * i + 0 ≤ 7281706 by omega)⟩) ?_
  have heq : iZ (tmM M v1) = iZ (lnM N v1) := congrArg iZ (tm_eq hR.1 v1)
  refine lv_icmp_eq (tgt := 469) hx hb d_law_441 (by decide) (fun _ => ?_) (fun cc => absurd heq cc)
  exact W.widen (by omega) (by omega) (kk H locs w M N hF ⟨A, ad, hC, hO, hM, hR, by omega⟩)
set_option maxHeartbeats 4000000 in
set_option maxRecDepth 100000 in
theorem lc_count {p : Program} {l : Launch} {e : Env} {s : State} {m : MethodId} {below : List Frame} {meth : Method} {c : Code} {b L : Nat} {xs : Nat → Int32} {g : GG} (hL : L ≤ 3072) (C0 : LawC p s m meth c b L xs g) {a b2 i : Nat} {M : CsM} {N : MoM} {w : fw} {H : Heap} {locs : List Loc} {ls : Array Slot} (hi : i + 6 ≤ L) (hF : fW g (fun q : Nat => s.heap.size ≤ q) s H locs w) (hV : LawI g w a b2 M N i) (hl : lv_has ls 4 [(3, .int (iZ (i : Int))), (2, .ref b2), (1, .ref a), (0, .ref b)])
    (kk : ∀ (H1 : Heap) (locs1 : List Loc) (w1 : fw) (M1 : CsM) (N1 : MoM), fW g (fun q : Nat => s.heap.size ≤ q) s H1 locs1 w1 → LawI g w1 a b2 M1 N1 (i + 6) → W p l e room_1 s m #[Value.ref b] below meth c H1 locs1 (25 + (i + 6)) (400 + 7 * (i + 6)) (lw_Z below #[Value.ref b] s) (F0 m 469 ls [])) : W p l e room_1 s m #[Value.ref b] below meth c H locs (25 + i) (400 + 7 * i) (lw_Z below #[Value.ref b] s) (F0 m 446 ls []) := by
  obtain ⟨hx, hb, hr, hml, hown, hts, hX, hbl, hlocks, hK, hT⟩ := C0
  have hA : ∀ q : Nat, s.heap.size ≤ q → (fun q : Nat => s.heap.size ≤ q) q := fun _ h => h
  have hbA : ¬ (fun q : Nat => s.heap.size ≤ q) b := Nat.not_le.mpr hbl
  obtain ⟨A, ad, hC, hO, hM, hR, ht⟩ := hV
  obtain ⟨v1, e1, r1⟩ := iZ_ex (xs ((i : Int) + 1).toNat)
  refine lv_aload_n hx hb d_law_446 rfl (lv_at hl 2 rfl) ?_
  refine lv_aload_n hx hb d_law_447 rfl (lv_at hl 3 rfl) ?_
  refine lv_iload_n hx hb d_law_448 rfl (lv_at hl 0 rfl) ?_
  refine lv_iconst (v := iZ 1) hx hb d_law_449 rfl ?_
  refine zz_iadd hx hb d_law_450 ?_
  refine lw_sld hx hb hX hbl hbA hF.2.2 hL (by omega) (by omega) e1 d_law_451 ?_
  refine fw_ro (r := .int (iZ (cnM M v1))) (va_runV (As := [.int (iZ v1)]) (rest := []) ⟨hx, hb, hml, hown, hts⟩ (c_Cs_count l g w a A M 102400 v1 hC hR.2.2.1 r1) (cwV 1 hts (gdV k_Cs_count t_462 t_463 t_464 t_45) rfl rfl rfl (by decide +kernel) ⟨Nat.le_of_ble_eq_true rfl, Nat.le_of_ble_eq_true rfl⟩) ⟨roP_blind, fw_recv hK hF.1 hC.c0 rfl, roP_pre hK hF.1⟩ rfl rfl hl.1 rfl (lv_room (Nat.le_of_ble_eq_true rfl)) d_law_452 ⟨(show 25 + i + 0 ≤ 606847 by omega), (show 400 + 7 * i + 0 ≤ 7281706 by omega)⟩) ?_
  refine lv_aload_n hx hb d_law_455 rfl (lv_at hl 1 rfl) ?_
  refine lv_aload_n hx hb d_law_456 rfl (lv_at hl 3 rfl) ?_
  refine lv_iload_n hx hb d_law_457 rfl (lv_at hl 0 rfl) ?_
  refine lv_iconst (v := iZ 1) hx hb d_law_458 rfl ?_
  refine zz_iadd hx hb d_law_459 ?_
  refine lw_sld hx hb hX hbl hbA hF.2.2 hL (by omega) (by omega) e1 d_law_460 ?_
  refine fw_ro (r := .int (iZ (cxM N v1))) (va_runV (As := [.int (iZ v1)]) (rest := [.int (iZ (cnM M v1))]) ⟨hx, hb, hml, hown, hts⟩ (c_Mo_count l g w b2 ad N 102400 v1 hM hR.2.2.2 r1) (cwV 1 hts (gdV k_Mo_count t_676 t_677 t_678 t_50) rfl rfl rfl (by decide +kernel) ⟨Nat.le_of_ble_eq_true rfl, Nat.le_of_ble_eq_true rfl⟩) ⟨roP_blind, fw_recv hK hF.1 hM.1 rfl, roP_pre hK hF.1⟩ rfl rfl hl.1 rfl (lv_room (Nat.le_of_ble_eq_true rfl)) d_law_461 ⟨(show 25 + i + 0 ≤ 606847 by omega), (show 400 + 7 * i + 0 ≤ 7281706 by omega)⟩) ?_
  have heq : iZ (cnM M v1) = iZ (cxM N v1) := congrArg iZ (cn_eq hR.1 hR.2.2.1 v1)
  refine lv_icmp_eq (tgt := 469) hx hb d_law_464 (by decide) (fun _ => ?_) (fun cc => absurd heq cc)
  exact W.widen (by omega) (by omega) (kk H locs w M N hF ⟨A, ad, hC, hO, hM, hR, by omega⟩)
