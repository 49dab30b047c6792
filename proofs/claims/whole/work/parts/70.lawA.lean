set_option maxHeartbeats 4000000 in
set_option maxRecDepth 100000 in
theorem lc_define {p : Program} {l : Launch} {e : Env} {s : State} {m : MethodId} {below : List Frame} {meth : Method} {c : Code} {b L : Nat} {xs : Nat → Int32} {g : GG} (hL : L ≤ 3072) (C0 : LawC p s m meth c b L xs g) {a b2 i : Nat} {M : CsM} {N : MoM} {w : fw} {H : Heap} {locs : List Loc} {ls : Array Slot} (hi : i + 6 ≤ L) (hF : fW g (fun q : Nat => s.heap.size ≤ q) s H locs w) (hV : LawI g w a b2 M N i) (hl : lv_has ls 4 [(3, .int (iZ (i : Int))), (2, .ref b2), (1, .ref a), (0, .ref b)])
    (kk : ∀ (H1 : Heap) (locs1 : List Loc) (w1 : fw) (M1 : CsM) (N1 : MoM), fW g (fun q : Nat => s.heap.size ≤ q) s H1 locs1 w1 → LawI g w1 a b2 M1 N1 (i + 6) → W p l e room_1 s m #[Value.ref b] below meth c H1 locs1 (25 + (i + 6)) (400 + 7 * (i + 6)) (lw_Z below #[Value.ref b] s) (F0 m 469 ls [])) : W p l e room_1 s m #[Value.ref b] below meth c H locs (25 + i) (400 + 7 * i) (lw_Z below #[Value.ref b] s) (F0 m 100 ls []) := by
  obtain ⟨hx, hb, hr, hml, hown, hts, hX, hbl, hlocks, hK, hT⟩ := C0
  have hA : ∀ q : Nat, s.heap.size ≤ q → (fun q : Nat => s.heap.size ≤ q) q := fun _ h => h
  have hbA : ¬ (fun q : Nat => s.heap.size ≤ q) b := Nat.not_le.mpr hbl
  obtain ⟨A, ad, hC, hO, hM, hR, ht⟩ := hV
  obtain ⟨v1, e1, r1⟩ := iZ_ex (xs ((i : Int) + 1).toNat)
  obtain ⟨v2, e2, r2⟩ := iZ_ex (xs ((i : Int) + 2).toNat)
  obtain ⟨v3, e3, r3⟩ := iZ_ex (xs ((i : Int) + 3).toNat)
  obtain ⟨v4, e4, r4⟩ := iZ_ex (xs ((i : Int) + 4).toNat)
  obtain ⟨v5, e5, r5⟩ := iZ_ex (xs ((i : Int) + 5).toNat)
  refine lv_aload_n hx hb d_law_100 rfl (lv_at hl 2 rfl) ?_
  refine lv_aload_n hx hb d_law_101 rfl (lv_at hl 3 rfl) ?_
  refine lv_iload_n hx hb d_law_102 rfl (lv_at hl 0 rfl) ?_
  refine lv_iconst (v := iZ 1) hx hb d_law_103 rfl ?_
  refine zz_iadd hx hb d_law_104 ?_
  refine lw_sld hx hb hX hbl hbA hF.2.2 hL (by omega) (by omega) e1 d_law_105 ?_
  refine lv_aload_n hx hb d_law_106 rfl (lv_at hl 3 rfl) ?_
  refine lv_iload_n hx hb d_law_107 rfl (lv_at hl 0 rfl) ?_
  refine lv_iconst (v := iZ 2) hx hb d_law_108 rfl ?_
  refine zz_iadd hx hb d_law_109 ?_
  refine lw_sld hx hb hX hbl hbA hF.2.2 hL (by omega) (by omega) e2 d_law_110 ?_
  refine lv_aload_n hx hb d_law_111 rfl (lv_at hl 3 rfl) ?_
  refine lv_iload_n hx hb d_law_112 rfl (lv_at hl 0 rfl) ?_
  refine lv_iconst (v := iZ 3) hx hb d_law_113 rfl ?_
  refine zz_iadd hx hb d_law_114 ?_
  refine lw_sld hx hb hX hbl hbA hF.2.2 hL (by omega) (by omega) e3 d_law_115 ?_
  refine lv_aload_n hx hb d_law_116 rfl (lv_at hl 3 rfl) ?_
  refine lv_iload_n hx hb d_law_117 rfl (lv_at hl 0 rfl) ?_
  refine lv_iconst (v := iZ 4) hx hb d_law_118 rfl ?_
  refine zz_iadd hx hb d_law_119 ?_
  refine lw_sld hx hb hX hbl hbA hF.2.2 hL (by omega) (by omega) e4 d_law_120 ?_
  refine lv_aload_n hx hb d_law_121 rfl (lv_at hl 3 rfl) ?_
  refine lv_iload_n hx hb d_law_122 rfl (lv_at hl 0 rfl) ?_
  refine lv_iconst (v := iZ 5) hx hb d_law_123 rfl ?_
  refine zz_iadd hx hb d_law_124 ?_
  refine lw_sld hx hb hX hbl hbA hF.2.2 hL (by omega) (by omega) e5 d_law_125 ?_
  refine fw_calli (va_runV (As := [.int (iZ v1), .int (iZ v2), .int (iZ v3), .int (iZ v4), .int (iZ v5)]) (rest := []) ⟨hx, hb, hml, hown, hts⟩ (c_Cs_define l g w H.size a A M (fun y => ¬ mOw b2 ad y) 102400 v1 v2 v3 v4 v5 hC hR.2.2.1 hO r1 r2 r3 r4 r5) (cwV 5 hts (gdV k_Cs_define t_137 t_138 t_139 t_45) rfl rfl rfl (by decide +kernel) ⟨Nat.le_of_ble_eq_true rfl, Nat.le_of_ble_eq_true rfl⟩) ⟨rwP_blind, fw_recv hK hF.1 hC.c0 rfl, rwP_pre hK hT hA hF⟩ rfl rfl hl.1 rfl (lv_room (Nat.le_of_ble_eq_true rfl)) d_law_126 ⟨(show 25 + i + 5 ≤ 606847 by omega), (show 400 + 7 * i + 37 ≤ 7281706 by omega)⟩) hF hA (fun q1 w1 H locs hp hz hF => ?_)
  obtain ⟨z1, ⟨A1, hC1, hO1⟩, ho⟩ := hp
  have hM1 : MoP g w1 b2 ad N := hM.keep (fun q hq => ho q (fun z => z hq) (hM.full hq))
  have hO1 : CsO (fun y => ¬ mOw b2 ad y) a A1 (dfM M v1 v2 v3 v4 v5) := hO1.mono (fun y hy => hy.elim id (fun z y1 => hM.full y1 z))
  refine lv_aload_n hx hb d_law_129 rfl (lv_at hl 1 rfl) ?_
  refine lv_aload_n hx hb d_law_130 rfl (lv_at hl 3 rfl) ?_
  refine lv_iload_n hx hb d_law_131 rfl (lv_at hl 0 rfl) ?_
  refine lv_iconst (v := iZ 1) hx hb d_law_132 rfl ?_
  refine zz_iadd hx hb d_law_133 ?_
  refine lw_sld hx hb hX hbl hbA hF.2.2 hL (by omega) (by omega) e1 d_law_134 ?_
  refine lv_aload_n hx hb d_law_135 rfl (lv_at hl 3 rfl) ?_
  refine lv_iload_n hx hb d_law_136 rfl (lv_at hl 0 rfl) ?_
  refine lv_iconst (v := iZ 2) hx hb d_law_137 rfl ?_
  refine zz_iadd hx hb d_law_138 ?_
  refine lw_sld hx hb hX hbl hbA hF.2.2 hL (by omega) (by omega) e2 d_law_139 ?_
  refine lv_aload_n hx hb d_law_140 rfl (lv_at hl 3 rfl) ?_
  refine lv_iload_n hx hb d_law_141 rfl (lv_at hl 0 rfl) ?_
  refine lv_iconst (v := iZ 3) hx hb d_law_142 rfl ?_
  refine zz_iadd hx hb d_law_143 ?_
  refine lw_sld hx hb hX hbl hbA hF.2.2 hL (by omega) (by omega) e3 d_law_144 ?_
  refine lv_aload_n hx hb d_law_145 rfl (lv_at hl 3 rfl) ?_
  refine lv_iload_n hx hb d_law_146 rfl (lv_at hl 0 rfl) ?_
  refine lv_iconst (v := iZ 4) hx hb d_law_147 rfl ?_
  refine zz_iadd hx hb d_law_148 ?_
  refine lw_sld hx hb hX hbl hbA hF.2.2 hL (by omega) (by omega) e4 d_law_149 ?_
  refine lv_aload_n hx hb d_law_150 rfl (lv_at hl 3 rfl) ?_
  refine lv_iload_n hx hb d_law_151 rfl (lv_at hl 0 rfl) ?_
  refine lv_iconst (v := iZ 5) hx hb d_law_152 rfl ?_
  refine zz_iadd hx hb d_law_153 ?_
  refine lw_sld hx hb hX hbl hbA hF.2.2 hL (by omega) (by omega) e5 d_law_154 ?_
  refine fw_calli (va_runV (As := [.int (iZ v1), .int (iZ v2), .int (iZ v3), .int (iZ v4), .int (iZ v5)]) (rest := [.int q1]) ⟨hx, hb, hml, hown, hts⟩ (c_Mo_define l g w1 H.size b2 ad N (mOw b2 ad) 102400 v1 v2 v3 v4 v5 hM1 hR.2.2.2 (mOw_own b2 ad) r1 r2 r3 r4 r5) (cwV 5 hts (gdV k_Mo_define t_587 t_588 t_589 t_50) rfl rfl rfl (by decide +kernel) ⟨Nat.le_of_ble_eq_true rfl, Nat.le_of_ble_eq_true rfl⟩) ⟨rwP_blind, fw_recv hK hF.1 hM1.1 rfl, rwP_pre hK hT hA hF⟩ rfl rfl hl.1 rfl (lv_room (Nat.le_of_ble_eq_true rfl)) d_law_155 ⟨(show 25 + i + 5 + 0 ≤ 606847 by omega), (show 400 + 7 * i + 37 + 0 ≤ 7281706 by omega)⟩) hF hA (fun q2 w2 H locs hp hz hF => ?_)
  obtain ⟨z2, hM2, ho2⟩ := hp
  have hC2 : CsP g w2 a A1 (dfM M v1 v2 v3 v4 v5) := hC1.keepO hO1 (fun q hq => ho2 q hq) (fun q fs hq => ho2 q (fun z => hM1.not2 z hq))
  obtain ⟨heq, hR1⟩ := df_eq hR v1 v2 v3 v4 v5
  refine lv_icmp_eq (tgt := 469) hx hb d_law_158 (by decide) (fun _ => ?_) (fun cc => absurd (by rw [z1, z2, heq]) cc)
  have hti := dfM_ti M v1 v2 v3 v4 v5
  exact W.widen (by omega) (by omega) (kk H locs w2 (dfM M v1 v2 v3 v4 v5) (dnM N v1 v2 v3 v4 v5) hF ⟨A1, ad, hC2, hO1, hM2, hR1, by omega⟩)
set_option maxHeartbeats 4000000 in
set_option maxRecDepth 100000 in
theorem lc_ceiling {p : Program} {l : Launch} {e : Env} {s : State} {m : MethodId} {below : List Frame} {meth : Method} {c : Code} {b L : Nat} {xs : Nat → Int32} {g : GG} (hL : L ≤ 3072) (C0 : LawC p s m meth c b L xs g) {a b2 i : Nat} {M : CsM} {N : MoM} {w : fw} {H : Heap} {locs : List Loc} {ls : Array Slot} (hi : i + 6 ≤ L) (hF : fW g (fun q : Nat => s.heap.size ≤ q) s H locs w) (hV : LawI g w a b2 M N i) (hl : lv_has ls 4 [(3, .int (iZ (i : Int))), (2, .ref b2), (1, .ref a), (0, .ref b)])
    (kk : ∀ (H1 : Heap) (locs1 : List Loc) (w1 : fw) (M1 : CsM) (N1 : MoM), fW g (fun q : Nat => s.heap.size ≤ q) s H1 locs1 w1 → LawI g w1 a b2 M1 N1 (i + 6) → W p l e room_1 s m #[Value.ref b] below meth c H1 locs1 (25 + (i + 6)) (400 + 7 * (i + 6)) (lw_Z below #[Value.ref b] s) (F0 m 469 ls [])) : W p l e room_1 s m #[Value.ref b] below meth c H locs (25 + i) (400 + 7 * i) (lw_Z below #[Value.ref b] s) (F0 m 163 ls []) := by
  obtain ⟨hx, hb, hr, hml, hown, hts, hX, hbl, hlocks, hK, hT⟩ := C0
  have hA : ∀ q : Nat, s.heap.size ≤ q → (fun q : Nat => s.heap.size ≤ q) q := fun _ h => h
  have hbA : ¬ (fun q : Nat => s.heap.size ≤ q) b := Nat.not_le.mpr hbl
  obtain ⟨A, ad, hC, hO, hM, hR, ht⟩ := hV
  obtain ⟨v1, e1, r1⟩ := iZ_ex (xs ((i : Int) + 1).toNat)
  obtain ⟨v2, e2, r2⟩ := iZ_ex (xs ((i : Int) + 2).toNat)
  refine lv_aload_n hx hb d_law_163 rfl (lv_at hl 2 rfl) ?_
  refine lv_aload_n hx hb d_law_164 rfl (lv_at hl 3 rfl) ?_
  refine lv_iload_n hx hb d_law_165 rfl (lv_at hl 0 rfl) ?_
  refine lv_iconst (v := iZ 1) hx hb d_law_166 rfl ?_
  refine zz_iadd hx hb d_law_167 ?_
  refine lw_sld hx hb hX hbl hbA hF.2.2 hL (by omega) (by omega) e1 d_law_168 ?_
  refine lv_aload_n hx hb d_law_169 rfl (lv_at hl 3 rfl) ?_
  refine lv_iload_n hx hb d_law_170 rfl (lv_at hl 0 rfl) ?_
  refine lv_iconst (v := iZ 2) hx hb d_law_171 rfl ?_
  refine zz_iadd hx hb d_law_172 ?_
  refine lw_sld hx hb hX hbl hbA hF.2.2 hL (by omega) (by omega) e2 d_law_173 ?_
  refine fw_calli (va_runV (As := [.int (iZ v1), .int (iZ v2)]) (rest := []) ⟨hx, hb, hml, hown, hts⟩ (c_Cs_ceiling l g w H.size a A M (fun y => ¬ mOw b2 ad y) 102400 v1 v2 hC hR.2.2.1 hO r1 r2) (cwV 2 hts (gdV k_Cs_ceiling t_278 t_279 t_280 t_45) rfl rfl rfl (by decide +kernel) ⟨Nat.le_of_ble_eq_true rfl, Nat.le_of_ble_eq_true rfl⟩) ⟨rwP_blind, fw_recv hK hF.1 hC.c0 rfl, rwP_pre hK hT hA hF⟩ rfl rfl hl.1 rfl (lv_room (Nat.le_of_ble_eq_true rfl)) d_law_174 ⟨(show 25 + i + 0 ≤ 606847 by omega), (show 400 + 7 * i + 0 ≤ 7281706 by omega)⟩) hF hA (fun q1 w1 H locs hp hz hF => ?_)
  obtain ⟨z1, hC1, ho⟩ := hp
  have hM1 : MoP g w1 b2 ad N := hM.keep (fun q hq => ho q (fun z => z hq))
  have hO1 : CsO (fun y => ¬ mOw b2 ad y) a A (ceM M v1 v2) := by unfold ceM; split <;> exact hO
  refine lv_aload_n hx hb d_law_177 rfl (lv_at hl 1 rfl) ?_
  refine lv_aload_n hx hb d_law_178 rfl (lv_at hl 3 rfl) ?_
  refine lv_iload_n hx hb d_law_179 rfl (lv_at hl 0 rfl) ?_
  refine lv_iconst (v := iZ 1) hx hb d_law_180 rfl ?_
  refine zz_iadd hx hb d_law_181 ?_
  refine lw_sld hx hb hX hbl hbA hF.2.2 hL (by omega) (by omega) e1 d_law_182 ?_
  refine lv_aload_n hx hb d_law_183 rfl (lv_at hl 3 rfl) ?_
  refine lv_iload_n hx hb d_law_184 rfl (lv_at hl 0 rfl) ?_
  refine lv_iconst (v := iZ 2) hx hb d_law_185 rfl ?_
  refine zz_iadd hx hb d_law_186 ?_
  refine lw_sld hx hb hX hbl hbA hF.2.2 hL (by omega) (by omega) e2 d_law_187 ?_
  refine fw_calli (va_runV (As := [.int (iZ v1), .int (iZ v2)]) (rest := [.int q1]) ⟨hx, hb, hml, hown, hts⟩ (c_Mo_ceiling l g w1 H.size b2 ad N (mOw b2 ad) 102400 v1 v2 hM1 hR.2.2.2 (mOw_own b2 ad) r1 r2) (cwV 2 hts (gdV k_Mo_ceiling t_595 t_596 t_597 t_50) rfl rfl rfl (by decide +kernel) ⟨Nat.le_of_ble_eq_true rfl, Nat.le_of_ble_eq_true rfl⟩) ⟨rwP_blind, fw_recv hK hF.1 hM1.1 rfl, rwP_pre hK hT hA hF⟩ rfl rfl hl.1 rfl (lv_room (Nat.le_of_ble_eq_true rfl)) d_law_188 ⟨(show 25 + i + 0 + 0 ≤ 606847 by omega), (show 400 + 7 * i + 0 + 0 ≤ 7281706 by omega)⟩) hF hA (fun q2 w2 H locs hp hz hF => ?_)
  obtain ⟨z2, hM2, ho2⟩ := hp
  have hC2 : CsP g w2 a A (ceM M v1 v2) := hC1.keepO hO1 (fun q hq => ho2 q hq) (fun q fs hq => ho2 q (fun z => hM1.not2 z hq))
  obtain ⟨heq, hR1⟩ := ce_eq hR v1 v2
  refine lv_icmp_eq (tgt := 469) hx hb d_law_191 (by decide) (fun _ => ?_) (fun cc => absurd (by rw [z1, z2, heq]) cc)
  have hti := ceM_ti M v1 v2
  exact W.widen (by omega) (by omega) (kk H locs w2 (ceM M v1 v2) (cnN N v1 v2) hF ⟨A, ad, hC2, hO1, hM2, hR1, by omega⟩)
set_option maxHeartbeats 4000000 in
set_option maxRecDepth 100000 in
theorem lc_section {p : Program} {l : Launch} {e : Env} {s : State} {m : MethodId} {below : List Frame} {meth : Method} {c : Code} {b L : Nat} {xs : Nat → Int32} {g : GG} (hL : L ≤ 3072) (C0 : LawC p s m meth c b L xs g) {a b2 i : Nat} {M : CsM} {N : MoM} {w : fw} {H : Heap} {locs : List Loc} {ls : Array Slot} (hi : i + 6 ≤ L) (hF : fW g (fun q : Nat => s.heap.size ≤ q) s H locs w) (hV : LawI g w a b2 M N i) (hl : lv_has ls 4 [(3, .int (iZ (i : Int))), (2, .ref b2), (1, .ref a), (0, .ref b)])
    (kk : ∀ (H1 : Heap) (locs1 : List Loc) (w1 : fw) (M1 : CsM) (N1 : MoM), fW g (fun q : Nat => s.heap.size ≤ q) s H1 locs1 w1 → LawI g w1 a b2 M1 N1 (i + 6) → W p l e room_1 s m #[Value.ref b] below meth c H1 locs1 (25 + (i + 6)) (400 + 7 * (i + 6)) (lw_Z below #[Value.ref b] s) (F0 m 469 ls [])) : W p l e room_1 s m #[Value.ref b] below meth c H locs (25 + i) (400 + 7 * i) (lw_Z below #[Value.ref b] s) (F0 m 196 ls []) := by
  obtain ⟨hx, hb, hr, hml, hown, hts, hX, hbl, hlocks, hK, hT⟩ := C0
  have hA : ∀ q : Nat, s.heap.size ≤ q → (fun q : Nat => s.heap.size ≤ q) q := fun _ h => h
  have hbA : ¬ (fun q : Nat => s.heap.size ≤ q) b := Nat.not_le.mpr hbl
  obtain ⟨A, ad, hC, hO, hM, hR, ht⟩ := hV
  obtain ⟨v1, e1, r1⟩ := iZ_ex (xs ((i : Int) + 1).toNat)
  obtain ⟨v2, e2, r2⟩ := iZ_ex (xs ((i : Int) + 2).toNat)
  obtain ⟨v3, e3, r3⟩ := iZ_ex (xs ((i : Int) + 3).toNat)
  obtain ⟨v4, e4, r4⟩ := iZ_ex (xs ((i : Int) + 4).toNat)
  refine lv_aload_n hx hb d_law_196 rfl (lv_at hl 2 rfl) ?_
  refine lv_aload_n hx hb d_law_197 rfl (lv_at hl 3 rfl) ?_
  refine lv_iload_n hx hb d_law_198 rfl (lv_at hl 0 rfl) ?_
  refine lv_iconst (v := iZ 1) hx hb d_law_199 rfl ?_
  refine zz_iadd hx hb d_law_200 ?_
  refine lw_sld hx hb hX hbl hbA hF.2.2 hL (by omega) (by omega) e1 d_law_201 ?_
  refine lv_aload_n hx hb d_law_202 rfl (lv_at hl 3 rfl) ?_
  refine lv_iload_n hx hb d_law_203 rfl (lv_at hl 0 rfl) ?_
  refine lv_iconst (v := iZ 2) hx hb d_law_204 rfl ?_
  refine zz_iadd hx hb d_law_205 ?_
  refine lw_sld hx hb hX hbl hbA hF.2.2 hL (by omega) (by omega) e2 d_law_206 ?_
  refine lv_aload_n hx hb d_law_207 rfl (lv_at hl 3 rfl) ?_
  refine lv_iload_n hx hb d_law_208 rfl (lv_at hl 0 rfl) ?_
  refine lv_iconst (v := iZ 3) hx hb d_law_209 rfl ?_
  refine zz_iadd hx hb d_law_210 ?_
  refine lw_sld hx hb hX hbl hbA hF.2.2 hL (by omega) (by omega) e3 d_law_211 ?_
  refine lv_aload_n hx hb d_law_212 rfl (lv_at hl 3 rfl) ?_
  refine lv_iload_n hx hb d_law_213 rfl (lv_at hl 0 rfl) ?_
  refine lv_iconst (v := iZ 4) hx hb d_law_214 rfl ?_
  refine zz_iadd hx hb d_law_215 ?_
  refine lw_sld hx hb hX hbl hbA hF.2.2 hL (by omega) (by omega) e4 d_law_216 ?_
  refine fw_calli (va_runV (As := [.int (iZ v1), .int (iZ v2), .int (iZ v3), .int (iZ v4)]) (rest := []) ⟨hx, hb, hml, hown, hts⟩ (c_Cs_section l g w H.size a A M (fun y => ¬ mOw b2 ad y) 102400 v1 v2 v3 v4 hC hR.2.2.1 hO r1 r2 r3 r4) (cwV 4 hts (gdV k_Cs_section t_311 t_312 t_313 t_45) rfl rfl rfl (by decide +kernel) ⟨Nat.le_of_ble_eq_true rfl, Nat.le_of_ble_eq_true rfl⟩) ⟨rwP_blind, fw_recv hK hF.1 hC.c0 rfl, rwP_pre hK hT hA hF⟩ rfl rfl hl.1 rfl (lv_room (Nat.le_of_ble_eq_true rfl)) d_law_217 ⟨(show 25 + i + 2 ≤ 606847 by omega), (show 400 + 7 * i + 13 ≤ 7281706 by omega)⟩) hF hA (fun q1 w1 H locs hp hz hF => ?_)
  obtain ⟨z1, ⟨A1, hC1, hO1⟩, ho⟩ := hp
  have hM1 : MoP g w1 b2 ad N := hM.keep (fun q hq => ho q (fun z => z hq) (hM.full hq))
  have hO1 : CsO (fun y => ¬ mOw b2 ad y) a A1 (scM M v1 v2 v3 v4) := hO1.mono (fun y hy => hy.elim id (fun z y1 => hM.full y1 z))
  refine lv_aload_n hx hb d_law_220 rfl (lv_at hl 1 rfl) ?_
  refine lv_aload_n hx hb d_law_221 rfl (lv_at hl 3 rfl) ?_
  refine lv_iload_n hx hb d_law_222 rfl (lv_at hl 0 rfl) ?_
  refine lv_iconst (v := iZ 1) hx hb d_law_223 rfl ?_
  refine zz_iadd hx hb d_law_224 ?_
  refine lw_sld hx hb hX hbl hbA hF.2.2 hL (by omega) (by omega) e1 d_law_225 ?_
  refine lv_aload_n hx hb d_law_226 rfl (lv_at hl 3 rfl) ?_
  refine lv_iload_n hx hb d_law_227 rfl (lv_at hl 0 rfl) ?_
  refine lv_iconst (v := iZ 2) hx hb d_law_228 rfl ?_
  refine zz_iadd hx hb d_law_229 ?_
  refine lw_sld hx hb hX hbl hbA hF.2.2 hL (by omega) (by omega) e2 d_law_230 ?_
  refine lv_aload_n hx hb d_law_231 rfl (lv_at hl 3 rfl) ?_
  refine lv_iload_n hx hb d_law_232 rfl (lv_at hl 0 rfl) ?_
  refine lv_iconst (v := iZ 3) hx hb d_law_233 rfl ?_
  refine zz_iadd hx hb d_law_234 ?_
  refine lw_sld hx hb hX hbl hbA hF.2.2 hL (by omega) (by omega) e3 d_law_235 ?_
  refine lv_aload_n hx hb d_law_236 rfl (lv_at hl 3 rfl) ?_
  refine lv_iload_n hx hb d_law_237 rfl (lv_at hl 0 rfl) ?_
  refine lv_iconst (v := iZ 4) hx hb d_law_238 rfl ?_
  refine zz_iadd hx hb d_law_239 ?_
  refine lw_sld hx hb hX hbl hbA hF.2.2 hL (by omega) (by omega) e4 d_law_240 ?_
  refine fw_calli (va_runV (As := [.int (iZ v1), .int (iZ v2), .int (iZ v3), .int (iZ v4)]) (rest := [.int q1]) ⟨hx, hb, hml, hown, hts⟩ (c_Mo_section l g w1 H.size b2 ad N (mOw b2 ad) 102400 v1 v2 v3 v4 hM1 hR.2.2.2 (mOw_own b2 ad) r1 r2 r3 r4) (cwV 4 hts (gdV k_Mo_section t_599 t_600 t_601 t_50) rfl rfl rfl (by decide +kernel) ⟨Nat.le_of_ble_eq_true rfl, Nat.le_of_ble_eq_true rfl⟩) ⟨rwP_blind, fw_recv hK hF.1 hM1.1 rfl, rwP_pre hK hT hA hF⟩ rfl rfl hl.1 rfl (lv_room (Nat.le_of_ble_eq_true rfl)) d_law_241 ⟨(show 25 + i + 2 + 0 ≤ 606847 by omega), (show 400 + 7 * i + 13 + 0 ≤ 7281706 by omega)⟩) hF hA (fun q2 w2 H locs hp hz hF => ?_)
  obtain ⟨z2, hM2, ho2⟩ := hp
  have hC2 : CsP g w2 a A1 (scM M v1 v2 v3 v4) := hC1.keepO hO1 (fun q hq => ho2 q hq) (fun q fs hq => ho2 q (fun z => hM1.not2 z hq))
  obtain ⟨heq, hR1⟩ := se_eq hR v1 v2 v3 v4
  refine lv_icmp_eq (tgt := 469) hx hb d_law_244 (by decide) (fun _ => ?_) (fun cc => absurd (by rw [z1, z2, heq]) cc)
  have hti := scM_ti M v1 v2 v3 v4
  exact W.widen (by omega) (by omega) (kk H locs w2 (scM M v1 v2 v3 v4) (sxM N v1 v2 v3 v4) hF ⟨A1, ad, hC2, hO1, hM2, hR1, by omega⟩)
set_option maxHeartbeats 4000000 in
set_option maxRecDepth 100000 in
theorem lc_start {p : Program} {l : Launch} {e : Env} {s : State} {m : MethodId} {below : List Frame} {meth : Method} {c : Code} {b L : Nat} {xs : Nat → Int32} {g : GG} (hL : L ≤ 3072) (C0 : LawC p s m meth c b L xs g) {a b2 i : Nat} {M : CsM} {N : MoM} {w : fw} {H : Heap} {locs : List Loc} {ls : Array Slot} (hi : i + 6 ≤ L) (hF : fW g (fun q : Nat => s.heap.size ≤ q) s H locs w) (hV : LawI g w a b2 M N i) (hl : lv_has ls 4 [(3, .int (iZ (i : Int))), (2, .ref b2), (1, .ref a), (0, .ref b)])
    (kk : ∀ (H1 : Heap) (locs1 : List Loc) (w1 : fw) (M1 : CsM) (N1 : MoM), fW g (fun q : Nat => s.heap.size ≤ q) s H1 locs1 w1 → LawI g w1 a b2 M1 N1 (i + 6) → W p l e room_1 s m #[Value.ref b] below meth c H1 locs1 (25 + (i + 6)) (400 + 7 * (i + 6)) (lw_Z below #[Value.ref b] s) (F0 m 469 ls [])) : W p l e room_1 s m #[Value.ref b] below meth c H locs (25 + i) (400 + 7 * i) (lw_Z below #[Value.ref b] s) (F0 m 249 ls []) := by
  obtain ⟨hx, hb, hr, hml, hown, hts, hX, hbl, hlocks, hK, hT⟩ := C0
  have hA : ∀ q : Nat, s.heap.size ≤ q → (fun q : Nat => s.heap.size ≤ q) q := fun _ h => h
  have hbA : ¬ (fun q : Nat => s.heap.size ≤ q) b := Nat.not_le.mpr hbl
  obtain ⟨A, ad, hC, hO, hM, hR, ht⟩ := hV
  refine lv_aload_n hx hb d_law_249 rfl (lv_at hl 2 rfl) ?_
  refine fw_calli (va_runV (As := []) (rest := []) ⟨hx, hb, hml, hown, hts⟩ (c_Cs_start l g w H.size a A M (fun y => ¬ mOw b2 ad y) 102400 hC hR.2.2.1 hO) (cwV 0 hts (gdV k_Cs_start t_344 t_345 t_346 t_45) rfl rfl rfl (by decide +kernel) ⟨Nat.le_of_ble_eq_true rfl, Nat.le_of_ble_eq_true rfl⟩) ⟨rwP_blind, fw_recv hK hF.1 hC.c0 rfl, rwP_pre hK hT hA hF⟩ rfl rfl hl.1 rfl (lv_room (Nat.le_of_ble_eq_true rfl)) d_law_250 ⟨(show 25 + i + 0 ≤ 606847 by omega), (show 400 + 7 * i + 0 ≤ 7281706 by omega)⟩) hF hA (fun q1 w1 H locs hp hz hF => ?_)
  obtain ⟨z1, hC1, ho⟩ := hp
  have hM1 : MoP g w1 b2 ad N := hM.keep (fun q hq => ho q (fun z => z hq))
  have hO1 : CsO (fun y => ¬ mOw b2 ad y) a A (srM M) := by unfold srM; split <;> exact hO
  refine lv_aload_n hx hb d_law_253 rfl (lv_at hl 1 rfl) ?_
  refine fw_calli (va_runV (As := []) (rest := [.int q1]) ⟨hx, hb, hml, hown, hts⟩ (c_Mo_start l g w1 H.size b2 ad N (mOw b2 ad) 102400 hM1 hR.2.2.2 (mOw_own b2 ad)) (cwV 0 hts (gdV k_Mo_start t_611 t_612 t_613 t_50) rfl rfl rfl (by decide +kernel) ⟨Nat.le_of_ble_eq_true rfl, Nat.le_of_ble_eq_true rfl⟩) ⟨rwP_blind, fw_recv hK hF.1 hM1.1 rfl, rwP_pre hK hT hA hF⟩ rfl rfl hl.1 rfl (lv_room (Nat.le_of_ble_eq_true rfl)) d_law_254 ⟨(show 25 + i + 0 + 0 ≤ 606847 by omega), (show 400 + 7 * i + 0 + 0 ≤ 7281706 by omega)⟩) hF hA (fun q2 w2 H locs hp hz hF => ?_)
  obtain ⟨z2, hM2, ho2⟩ := hp
  have hC2 : CsP g w2 a A (srM M) := hC1.keepO hO1 (fun q hq => ho2 q hq) (fun q fs hq => ho2 q (fun z => hM1.not2 z hq))
  obtain ⟨heq, hR1⟩ := sr_eq hR
  refine lv_icmp_eq (tgt := 469) hx hb d_law_257 (by decide) (fun _ => ?_) (fun cc => absurd (by rw [z1, z2, heq]) cc)
  have hti := srM_ti M
  exact W.widen (by omega) (by omega) (kk H locs w2 (srM M) (snM N) hF ⟨A, ad, hC2, hO1, hM2, hR1, by omega⟩)
set_option maxHeartbeats 4000000 in
set_option maxRecDepth 100000 in
theorem lc_event {p : Program} {l : Launch} {e : Env} {s : State} {m : MethodId} {below : List Frame} {meth : Method} {c : Code} {b L : Nat} {xs : Nat → Int32} {g : GG} (hL : L ≤ 3072) (C0 : LawC p s m meth c b L xs g) {a b2 i : Nat} {M : CsM} {N : MoM} {w : fw} {H : Heap} {locs : List Loc} {ls : Array Slot} (hi : i + 6 ≤ L) (hF : fW g (fun q : Nat => s.heap.size ≤ q) s H locs w) (hV : LawI g w a b2 M N i) (hl : lv_has ls 4 [(3, .int (iZ (i : Int))), (2, .ref b2), (1, .ref a), (0, .ref b)])
    (kk : ∀ (H1 : Heap) (locs1 : List Loc) (w1 : fw) (M1 : CsM) (N1 : MoM), fW g (fun q : Nat => s.heap.size ≤ q) s H1 locs1 w1 → LawI g w1 a b2 M1 N1 (i + 6) → W p l e room_1 s m #[Value.ref b] below meth c H1 locs1 (25 + (i + 6)) (400 + 7 * (i + 6)) (lw_Z below #[Value.ref b] s) (F0 m 469 ls [])) : W p l e room_1 s m #[Value.ref b] below meth c H locs (25 + i) (400 + 7 * i) (lw_Z below #[Value.ref b] s) (F0 m 262 ls []) := by
  obtain ⟨hx, hb, hr, hml, hown, hts, hX, hbl, hlocks, hK, hT⟩ := C0
  have hA : ∀ q : Nat, s.heap.size ≤ q → (fun q : Nat => s.heap.size ≤ q) q := fun _ h => h
  have hbA : ¬ (fun q : Nat => s.heap.size ≤ q) b := Nat.not_le.mpr hbl
  obtain ⟨A, ad, hC, hO, hM, hR, ht⟩ := hV
  obtain ⟨v1, e1, r1⟩ := iZ_ex (xs ((i : Int) + 1).toNat)
  refine lv_aload_n hx hb d_law_262 rfl (lv_at hl 2 rfl) ?_
  refine lv_aload_n hx hb d_law_263 rfl (lv_at hl 3 rfl) ?_
  refine lv_iload_n hx hb d_law_264 rfl (lv_at hl 0 rfl) ?_
  refine lv_iconst (v := iZ 1) hx hb d_law_265 rfl ?_
  refine zz_iadd hx hb d_law_266 ?_
  refine lw_sld hx hb hX hbl hbA hF.2.2 hL (by omega) (by omega) e1 d_law_267 ?_
  refine fw_calli (va_runV (As := [.int (iZ v1)]) (rest := []) ⟨hx, hb, hml, hown, hts⟩ (c_Cs_event l g w H.size a A M (fun y => ¬ mOw b2 ad y) 102400 v1 hC hR.2.2.1 hO r1) (cwV 1 hts (gdV k_Cs_event t_352 t_353 t_354 t_45) rfl rfl rfl (by decide +kernel) ⟨Nat.le_of_ble_eq_true rfl, Nat.le_of_ble_eq_true rfl⟩) ⟨rwP_blind, fw_recv hK hF.1 hC.c0 rfl, rwP_pre hK hT hA hF⟩ rfl rfl hl.1 rfl (lv_room (Nat.le_of_ble_eq_true rfl)) d_law_268 ⟨(show 25 + i + 0 ≤ 606847 by omega), (show 400 + 7 * i + 0 ≤ 7281706 by omega)⟩) hF hA (fun q1 w1 H locs hp hz hF => ?_)
  obtain ⟨z1, hC1, ho⟩ := hp
  have hM1 : MoP g w1 b2 ad N := hM.keep (fun q hq => ho q (fun z => z hq))
  have hO1 : CsO (fun y => ¬ mOw b2 ad y) a A (evM M v1) := by unfold evM; split <;> exact hO
  refine lv_aload_n hx hb d_law_271 rfl (lv_at hl 1 rfl) ?_
  refine lv_aload_n hx hb d_law_272 rfl (lv_at hl 3 rfl) ?_
  refine lv_iload_n hx hb d_law_273 rfl (lv_at hl 0 rfl) ?_
  refine lv_iconst (v := iZ 1) hx hb d_law_274 rfl ?_
  refine zz_iadd hx hb d_law_275 ?_
  refine lw_sld hx hb hX hbl hbA hF.2.2 hL (by omega) (by omega) e1 d_law_276 ?_
  refine fw_calli (va_runV (As := [.int (iZ v1)]) (rest := [.int q1]) ⟨hx, hb, hml, hown, hts⟩ (c_Mo_event l g w1 H.size b2 ad N (mOw b2 ad) 102400 v1 hM1 hR.2.2.2 (mOw_own b2 ad) r1 (lw_h13 hR)) (cwV 1 hts (gdV k_Mo_event t_615 t_616 t_617 t_50) rfl rfl rfl (by decide +kernel) ⟨Nat.le_of_ble_eq_true rfl, Nat.le_of_ble_eq_true rfl⟩) ⟨rwP_blind, fw_recv hK hF.1 hM1.1 rfl, rwP_pre hK hT hA hF⟩ rfl rfl hl.1 rfl (lv_room (Nat.le_of_ble_eq_true rfl)) d_law_277 ⟨(show 25 + i + 0 + 0 ≤ 606847 by omega), (show 400 + 7 * i + 0 + 0 ≤ 7281706 by omega)⟩) hF hA (fun q2 w2 H locs hp hz hF => ?_)
  obtain ⟨z2, hM2, ho2⟩ := hp
  have hC2 : CsP g w2 a A (evM M v1) := hC1.keepO hO1 (fun q hq => ho2 q hq) (fun q fs hq => ho2 q (fun z => hM1.not2 z hq))
  obtain ⟨heq, hR1⟩ := ev_eq hR v1
  refine lv_icmp_eq (tgt := 469) hx hb d_law_280 (by decide) (fun _ => ?_) (fun cc => absurd (by rw [z1, z2, heq]) cc)
  have hti := evM_ti M v1
  exact W.widen (by omega) (by omega) (kk H locs w2 (evM M v1) (enM N v1) hF ⟨A, ad, hC2, hO1, hM2, hR1, by omega⟩)
set_option maxHeartbeats 4000000 in
set_option maxRecDepth 100000 in
theorem lc_tick {p : Program} {l : Launch} {e : Env} {s : State} {m : MethodId} {below : List Frame} {meth : Method} {c : Code} {b L : Nat} {xs : Nat → Int32} {g : GG} (hL : L ≤ 3072) (C0 : LawC p s m meth c b L xs g) {a b2 i : Nat} {M : CsM} {N : MoM} {w : fw} {H : Heap} {locs : List Loc} {ls : Array Slot} (hi : i + 6 ≤ L) (hF : fW g (fun q : Nat => s.heap.size ≤ q) s H locs w) (hV : LawI g w a b2 M N i) (hl : lv_has ls 4 [(3, .int (iZ (i : Int))), (2, .ref b2), (1, .ref a), (0, .ref b)])
    (kk : ∀ (H1 : Heap) (locs1 : List Loc) (w1 : fw) (M1 : CsM) (N1 : MoM), fW g (fun q : Nat => s.heap.size ≤ q) s H1 locs1 w1 → LawI g w1 a b2 M1 N1 (i + 6) → W p l e room_1 s m #[Value.ref b] below meth c H1 locs1 (25 + (i + 6)) (400 + 7 * (i + 6)) (lw_Z below #[Value.ref b] s) (F0 m 469 ls [])) : W p l e room_1 s m #[Value.ref b] below meth c H locs (25 + i) (400 + 7 * i) (lw_Z below #[Value.ref b] s) (F0 m 285 ls []) := by
  obtain ⟨hx, hb, hr, hml, hown, hts, hX, hbl, hlocks, hK, hT⟩ := C0
  have hA : ∀ q : Nat, s.heap.size ≤ q → (fun q : Nat => s.heap.size ≤ q) q := fun _ h => h
  have hbA : ¬ (fun q : Nat => s.heap.size ≤ q) b := Nat.not_le.mpr hbl
  obtain ⟨A, ad, hC, hO, hM, hR, ht⟩ := hV
  obtain ⟨v1, e1, r1⟩ := iZ_ex (xs ((i : Int) + 1).toNat)
  refine lv_aload_n hx hb d_law_285 rfl (lv_at hl 2 rfl) ?_
  refine lv_aload_n hx hb d_law_286 rfl (lv_at hl 3 rfl) ?_
  refine lv_iload_n hx hb d_law_287 rfl (lv_at hl 0 rfl) ?_
  refine lv_iconst (v := iZ 1) hx hb d_law_288 rfl ?_
  refine zz_iadd hx hb d_law_289 ?_
  refine lw_sld hx hb hX hbl hbA hF.2.2 hL (by omega) (by omega) e1 d_law_290 ?_
  refine fw_calli (va_runV (As := [.int (iZ v1)]) (rest := []) ⟨hx, hb, hml, hown, hts⟩ (c_Cs_tick l g w H.size a A M (fun y => ¬ mOw b2 ad y) 102400 v1 hC hR.2.2.1 hO (by omega) r1) (cwV 1 hts (gdV k_Cs_tick t_368 t_369 t_370 t_45) rfl rfl rfl (by decide +kernel) ⟨Nat.le_of_ble_eq_true rfl, Nat.le_of_ble_eq_true rfl⟩) ⟨rwP_blind, fw_recv hK hF.1 hC.c0 rfl, rwP_pre hK hT hA hF⟩ rfl rfl hl.1 rfl (lv_room (Nat.le_of_ble_eq_true rfl)) d_law_291 ⟨(show 25 + i + 0 ≤ 606847 by omega), (show 400 + 7 * i + 0 ≤ 7281706 by omega)⟩) hF hA (fun q1 w1 H locs hp hz hF => ?_)
  obtain ⟨z1, hC1, ho⟩ := hp
  have hM1 : MoP g w1 b2 ad N := hM.keep (fun q hq => ho q (fun z => z hq))
  have hO1 : CsO (fun y => ¬ mOw b2 ad y) a A (tkM M v1) := CsO_tkM hO v1
  refine lv_aload_n hx hb d_law_294 rfl (lv_at hl 1 rfl) ?_
  refine lv_aload_n hx hb d_law_295 rfl (lv_at hl 3 rfl) ?_
  refine lv_iload_n hx hb d_law_296 rfl (lv_at hl 0 rfl) ?_
  refine lv_iconst (v := iZ 1) hx hb d_law_297 rfl ?_
  refine zz_iadd hx hb d_law_298 ?_
  refine lw_sld hx hb hX hbl hbA hF.2.2 hL (by omega) (by omega) e1 d_law_299 ?_
  refine fw_calli (va_runV (As := [.int (iZ v1)]) (rest := [.int q1]) ⟨hx, hb, hml, hown, hts⟩ (c_Mo_tick l g w1 H.size b2 ad N (mOw b2 ad) 102400 v1 hM1 hR.2.2.2 (mOw_own b2 ad) (by rw [hR.1.1.2.1]; omega) r1) (cwV 1 hts (gdV k_Mo_tick t_623 t_624 t_625 t_50) rfl rfl rfl (by decide +kernel) ⟨Nat.le_of_ble_eq_true rfl, Nat.le_of_ble_eq_true rfl⟩) ⟨rwP_blind, fw_recv hK hF.1 hM1.1 rfl, rwP_pre hK hT hA hF⟩ rfl rfl hl.1 rfl (lv_room (Nat.le_of_ble_eq_true rfl)) d_law_300 ⟨(show 25 + i + 0 + 0 ≤ 606847 by omega), (show 400 + 7 * i + 0 + 0 ≤ 7281706 by omega)⟩) hF hA (fun q2 w2 H locs hp hz hF => ?_)
  obtain ⟨z2, hM2, ho2⟩ := hp
  have hC2 : CsP g w2 a A (tkM M v1) := hC1.keepO hO1 (fun q hq => ho2 q hq) (fun q fs hq => ho2 q (fun z => hM1.not2 z hq))
  obtain ⟨heq, hR1⟩ := tk_eq hR (by omega) v1
  refine lv_icmp_eq (tgt := 469) hx hb d_law_303 (by decide) (fun _ => ?_) (fun cc => absurd (by rw [z1, z2, heq]) cc)
  have hti := tkM_ti M v1
  exact W.widen (by omega) (by omega) (kk H locs w2 (tkM M v1) (tnS N v1) hF ⟨A, ad, hC2, hO1, hM2, hR1, by omega⟩)
