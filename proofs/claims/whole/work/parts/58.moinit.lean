set_option maxHeartbeats 4000000 in
set_option maxRecDepth 100000 in
theorem c_Mo_init (l : Launch) (g : GG) (w : fw) (sz : Nat) (b : Nat) (hb0 : w b = some (.inr (5, [.int (iZ 0), .int (iZ 0), .int (iZ 0), .int (iZ 0), .int (iZ 0), .int (iZ 0), .int (bZ false), .null, .null, .null, .null, .null, .null, .null, .null, .null, .null, .null, .null, .null, .null, .null, .null, .null, .null, .null]))) : RWv l y_Mo_init w_Mo_init ({ frames := 1, cells := 19, slots := 248, locals := 12 }) g w sz [.ref b] 19 248 ((fun w1 => ∃ ad : Nat → Nat, MoP g w1 b ad moN0 ∧ (∀ k, k < 19 → w (ad k) = none) ∧ ∀ q, q ≠ b → w q ≠ none → w1 q = w q)) := by
  refine rw_go (by decide) rfl (Nat.le_of_ble_eq_true rfl) ?_
  intro p e s m below meth c hx hb hr hml hown hts hlocks hin hsz hK hT hA hF ls hl
  subst hsz
  have hown : s.vm.findClass rMo = some m.cls := hown
  have hl : lv_has ls 2 [(0, .ref b)] := hl
  refine lv_aload_n hx hb d_Mo_init_0 rfl (lv_at hl 0 rfl) ?_
  refine W.objInit hx hb hown (hts _ t_507) (hts _ t_66) (hts _ k_Oj_init) rfl (by rw [hml]; exact hl.1) rfl d_Mo_init_1 (Nat.le_of_ble_eq_true rfl) (Nat.le_of_ble_eq_true rfl) ?_
  refine W.eq (g2 := F0 m 4 ls []) rfl ?_
  refine lv_aload_n hx hb d_Mo_init_4 rfl (lv_at hl 0 rfl) ?_
  refine lv_iconst (v := iZ 0) hx hb d_Mo_init_5 rfl ?_
  refine fw_put (ci := 5) (v := .int (iZ 0)) (ty := .int) (C := rMo) (T := fMo) (N := 26) hx hb hts iMo yMo_t yMo_ok yMo_nm hown hK hF hb0 rfl 0 (by decide) (hts _ t_508) (fun _ h9 => h9) rfl (by decide +kernel) rfl rfl (Nat.le_of_ble_eq_true rfl) d_Mo_init_6 (fun H locs hF => ?_)
  obtain ⟨w1, ew1⟩ : ∃ zw : fw, zw = fU w b (.inr (5, [.int (iZ 0), .int (iZ 0), .int (iZ 0), .int (iZ 0), .int (iZ 0), .int (iZ 0), .int (bZ false), .null, .null, .null, .null, .null, .null, .null, .null, .null, .null, .null, .null, .null, .null, .null, .null, .null, .null, .null])) := ⟨_, rfl⟩
  have hF := fW_to ew1 hF
  have h2 : w1 b = some (.inr (5, [.int (iZ 0), .int (iZ 0), .int (iZ 0), .int (iZ 0), .int (iZ 0), .int (iZ 0), .int (bZ false), .null, .null, .null, .null, .null, .null, .null, .null, .null, .null, .null, .null, .null, .null, .null, .null, .null, .null, .null])) := by rw [ew1]; exact fU_s _ _ _
  refine lv_aload_n hx hb d_Mo_init_9 rfl (lv_at hl 0 rfl) ?_
  refine lv_iconst (v := iZ 0) hx hb d_Mo_init_10 rfl ?_
  refine fw_put (ci := 5) (v := .int (iZ 0)) (ty := .int) (C := rMo) (T := fMo) (N := 26) hx hb hts iMo yMo_t yMo_ok yMo_nm hown hK hF h2 rfl 1 (by decide) (hts _ t_509) (fun _ h9 => h9) rfl (by decide +kernel) rfl rfl (Nat.le_of_ble_eq_true rfl) d_Mo_init_11 (fun H locs hF => ?_)
  obtain ⟨w3, ew3⟩ : ∃ zw : fw, zw = fU w1 b (.inr (5, [.int (iZ 0), .int (iZ 0), .int (iZ 0), .int (iZ 0), .int (iZ 0), .int (iZ 0), .int (bZ false), .null, .null, .null, .null, .null, .null, .null, .null, .null, .null, .null, .null, .null, .null, .null, .null, .null, .null, .null])) := ⟨_, rfl⟩
  have hF := fW_to ew3 hF
  have h4 : w3 b = some (.inr (5, [.int (iZ 0), .int (iZ 0), .int (iZ 0), .int (iZ 0), .int (iZ 0), .int (iZ 0), .int (bZ false), .null, .null, .null, .null, .null, .null, .null, .null, .null, .null, .null, .null, .null, .null, .null, .null, .null, .null, .null])) := by rw [ew3]; exact fU_s _ _ _
  refine lv_aload_n hx hb d_Mo_init_14 rfl (lv_at hl 0 rfl) ?_
  refine lv_iconst (v := iZ 0) hx hb d_Mo_init_15 rfl ?_
  refine fw_put (ci := 5) (v := .int (iZ 0)) (ty := .int) (C := rMo) (T := fMo) (N := 26) hx hb hts iMo yMo_t yMo_ok yMo_nm hown hK hF h4 rfl 2 (by decide) (hts _ t_510) (fun _ h9 => h9) rfl (by decide +kernel) rfl rfl (Nat.le_of_ble_eq_true rfl) d_Mo_init_16 (fun H locs hF => ?_)
  obtain ⟨w5, ew5⟩ : ∃ zw : fw, zw = fU w3 b (.inr (5, [.int (iZ 0), .int (iZ 0), .int (iZ 0), .int (iZ 0), .int (iZ 0), .int (iZ 0), .int (bZ false), .null, .null, .null, .null, .null, .null, .null, .null, .null, .null, .null, .null, .null, .null, .null, .null, .null, .null, .null])) := ⟨_, rfl⟩
  have hF := fW_to ew5 hF
  have h6 : w5 b = some (.inr (5, [.int (iZ 0), .int (iZ 0), .int (iZ 0), .int (iZ 0), .int (iZ 0), .int (iZ 0), .int (bZ false), .null, .null, .null, .null, .null, .null, .null, .null, .null, .null, .null, .null, .null, .null, .null, .null, .null, .null, .null])) := by rw [ew5]; exact fU_s _ _ _
  refine lv_aload_n hx hb d_Mo_init_19 rfl (lv_at hl 0 rfl) ?_
  refine lv_iconst (v := iZ 0) hx hb d_Mo_init_20 rfl ?_
  refine fw_put (ci := 5) (v := .int (iZ 0)) (ty := .int) (C := rMo) (T := fMo) (N := 26) hx hb hts iMo yMo_t yMo_ok yMo_nm hown hK hF h6 rfl 3 (by decide) (hts _ t_511) (fun _ h9 => h9) rfl (by decide +kernel) rfl rfl (Nat.le_of_ble_eq_true rfl) d_Mo_init_21 (fun H locs hF => ?_)
  obtain ⟨w7, ew7⟩ : ∃ zw : fw, zw = fU w5 b (.inr (5, [.int (iZ 0), .int (iZ 0), .int (iZ 0), .int (iZ 0), .int (iZ 0), .int (iZ 0), .int (bZ false), .null, .null, .null, .null, .null, .null, .null, .null, .null, .null, .null, .null, .null, .null, .null, .null, .null, .null, .null])) := ⟨_, rfl⟩
  have hF := fW_to ew7 hF
  have h8 : w7 b = some (.inr (5, [.int (iZ 0), .int (iZ 0), .int (iZ 0), .int (iZ 0), .int (iZ 0), .int (iZ 0), .int (bZ false), .null, .null, .null, .null, .null, .null, .null, .null, .null, .null, .null, .null, .null, .null, .null, .null, .null, .null, .null])) := by rw [ew7]; exact fU_s _ _ _
  refine lv_aload_n hx hb d_Mo_init_24 rfl (lv_at hl 0 rfl) ?_
  refine lv_bipush (v := iZ (-3)) hx hb d_Mo_init_25 (by decide) ?_
  refine fw_put (ci := 5) (v := .int (iZ (-3))) (ty := .int) (C := rMo) (T := fMo) (N := 26) hx hb hts iMo yMo_t yMo_ok yMo_nm hown hK hF h8 rfl 4 (by decide) (hts _ t_512) (fun _ h9 => h9) rfl (by decide +kernel) rfl rfl (Nat.le_of_ble_eq_true rfl) d_Mo_init_27 (fun H locs hF => ?_)
  obtain ⟨w9, ew9⟩ : ∃ zw : fw, zw = fU w7 b (.inr (5, [.int (iZ 0), .int (iZ 0), .int (iZ 0), .int (iZ 0), .int (iZ (-3)), .int (iZ 0), .int (bZ false), .null, .null, .null, .null, .null, .null, .null, .null, .null, .null, .null, .null, .null, .null, .null, .null, .null, .null, .null])) := ⟨_, rfl⟩
  have hF := fW_to ew9 hF
  have h10 : w9 b = some (.inr (5, [.int (iZ 0), .int (iZ 0), .int (iZ 0), .int (iZ 0), .int (iZ (-3)), .int (iZ 0), .int (bZ false), .null, .null, .null, .null, .null, .null, .null, .null, .null, .null, .null, .null, .null, .null, .null, .null, .null, .null, .null])) := by rw [ew9]; exact fU_s _ _ _
  refine lv_aload_n hx hb d_Mo_init_30 rfl (lv_at hl 0 rfl) ?_
  refine lv_iconst (v := iZ (-1)) hx hb d_Mo_init_31 rfl ?_
  refine fw_put (ci := 5) (v := .int (iZ (-1))) (ty := .int) (C := rMo) (T := fMo) (N := 26) hx hb hts iMo yMo_t yMo_ok yMo_nm hown hK hF h10 rfl 5 (by decide) (hts _ t_513) (fun _ h9 => h9) rfl (by decide +kernel) rfl rfl (Nat.le_of_ble_eq_true rfl) d_Mo_init_32 (fun H locs hF => ?_)
  obtain ⟨w11, ew11⟩ : ∃ zw : fw, zw = fU w9 b (.inr (5, [.int (iZ 0), .int (iZ 0), .int (iZ 0), .int (iZ 0), .int (iZ (-3)), .int (iZ (-1)), .int (bZ false), .null, .null, .null, .null, .null, .null, .null, .null, .null, .null, .null, .null, .null, .null, .null, .null, .null, .null, .null])) := ⟨_, rfl⟩
  have hF := fW_to ew11 hF
  have h12 : w11 b = some (.inr (5, [.int (iZ 0), .int (iZ 0), .int (iZ 0), .int (iZ 0), .int (iZ (-3)), .int (iZ (-1)), .int (bZ false), .null, .null, .null, .null, .null, .null, .null, .null, .null, .null, .null, .null, .null, .null, .null, .null, .null, .null, .null])) := by rw [ew11]; exact fU_s _ _ _
  refine lv_aload_n hx hb d_Mo_init_35 rfl (lv_at hl 0 rfl) ?_
  refine lv_iconst (v := iZ 0) hx hb d_Mo_init_36 rfl ?_
  refine fw_put (ci := 5) (v := .int (bZ false)) (ty := .boolean) (C := rMo) (T := fMo) (N := 26) hx hb hts iMo yMo_t yMo_ok yMo_nm hown hK hF h12 rfl 6 (by decide) (hts _ t_514) (fun _ h9 => h9) rfl (by decide +kernel) (bZ_nar _) (bZ_fit _) (Nat.le_of_ble_eq_true rfl) d_Mo_init_37 (fun H locs hF => ?_)
  obtain ⟨w13, ew13⟩ : ∃ zw : fw, zw = fU w11 b (.inr (5, [.int (iZ 0), .int (iZ 0), .int (iZ 0), .int (iZ 0), .int (iZ (-3)), .int (iZ (-1)), .int (bZ false), .null, .null, .null, .null, .null, .null, .null, .null, .null, .null, .null, .null, .null, .null, .null, .null, .null, .null, .null])) := ⟨_, rfl⟩
  have hF := fW_to ew13 hF
  have h14 : w13 b = some (.inr (5, [.int (iZ 0), .int (iZ 0), .int (iZ 0), .int (iZ 0), .int (iZ (-3)), .int (iZ (-1)), .int (bZ false), .null, .null, .null, .null, .null, .null, .null, .null, .null, .null, .null, .null, .null, .null, .null, .null, .null, .null, .null])) := by rw [ew13]; exact fU_s _ _ _
  refine lv_aload_n hx hb d_Mo_init_40 rfl (lv_at hl 0 rfl) ?_
  refine lv_bipush (v := iZ 6) hx hb d_Mo_init_41 (by decide) ?_
  refine fw_newa (N := 6) hx hb (hts _ t_123) hK hF hA rfl (by decide) (Nat.le_of_ble_eq_true rfl) (Nat.le_of_ble_eq_true rfl) d_Mo_init_43 (fun q15 H nq15 hF => ?_)
  obtain ⟨w16, ew16⟩ : ∃ zw : fw, zw = fU w13 q15 (aZ g.2.1 6 (fun _ => 0)) := ⟨_, rfl⟩
  have hF := fW_to ew16 hF
  have h17 : w16 b = some (.inr (5, [.int (iZ 0), .int (iZ 0), .int (iZ 0), .int (iZ 0), .int (iZ (-3)), .int (iZ (-1)), .int (bZ false), .null, .null, .null, .null, .null, .null, .null, .null, .null, .null, .null, .null, .null, .null, .null, .null, .null, .null, .null])) := by rw [ew16]; exact fU_k (fw_new_ne h14 nq15) h14
  have h18 : w16 q15 = some (aZ g.2.1 6 (fun _ => 0)) := by rw [ew16]; exact fU_s _ _ _
  have n19 : w11 q15 = none := fU_none (by rw [← ew13]; exact nq15)
  have n20 : w9 q15 = none := fU_none (by rw [← ew11]; exact n19)
  have n21 : w7 q15 = none := fU_none (by rw [← ew9]; exact n20)
  have n22 : w5 q15 = none := fU_none (by rw [← ew7]; exact n21)
  have n23 : w3 q15 = none := fU_none (by rw [← ew5]; exact n22)
  have n24 : w1 q15 = none := fU_none (by rw [← ew3]; exact n23)
  have n25 : w q15 = none := fU_none (by rw [← ew1]; exact n24)
  refine fw_putF (ci := 5) (v := .ref q15) (ty := .array .int) (C := rMo) (T := fMo) (N := 26) hx hb hts iMo yMo_t yMo_ok yMo_nm hown hK hF h17 rfl 7 (by decide) (hts _ t_515) (fun _ h9 => h9) rfl hin rfl (by decide +kernel) rfl rfl (Nat.le_of_ble_eq_true rfl) d_Mo_init_45 (fun H locs hF => ?_)
  obtain ⟨w26, ew26⟩ : ∃ zw : fw, zw = fU w16 b (.inr (5, [.int (iZ 0), .int (iZ 0), .int (iZ 0), .int (iZ 0), .int (iZ (-3)), .int (iZ (-1)), .int (bZ false), .ref q15, .null, .null, .null, .null, .null, .null, .null, .null, .null, .null, .null, .null, .null, .null, .null, .null, .null, .null])) := ⟨_, rfl⟩
  have hF := fW_to ew26 hF
  have h27 : w26 b = some (.inr (5, [.int (iZ 0), .int (iZ 0), .int (iZ 0), .int (iZ 0), .int (iZ (-3)), .int (iZ (-1)), .int (bZ false), .ref q15, .null, .null, .null, .null, .null, .null, .null, .null, .null, .null, .null, .null, .null, .null, .null, .null, .null, .null])) := by rw [ew26]; exact fU_s _ _ _
  have h28 : w26 q15 = some (aZ g.2.1 6 (fun _ => 0)) := by rw [ew26]; exact fU_k (fw_ne h18 h17 ne_lr) h18
  refine lv_aload_n hx hb d_Mo_init_48 rfl (lv_at hl 0 rfl) ?_
  refine lv_bipush (v := iZ 6) hx hb d_Mo_init_49 (by decide) ?_
  refine fw_newa (N := 6) hx hb (hts _ t_123) hK hF hA rfl (by decide) (Nat.le_of_ble_eq_true rfl) (Nat.le_of_ble_eq_true rfl) d_Mo_init_51 (fun q29 H nq29 hF => ?_)
  obtain ⟨w30, ew30⟩ : ∃ zw : fw, zw = fU w26 q29 (aZ g.2.1 6 (fun _ => 0)) := ⟨_, rfl⟩
  have hF := fW_to ew30 hF
  have h31 : w30 b = some (.inr (5, [.int (iZ 0), .int (iZ 0), .int (iZ 0), .int (iZ 0), .int (iZ (-3)), .int (iZ (-1)), .int (bZ false), .ref q15, .null, .null, .null, .null, .null, .null, .null, .null, .null, .null, .null, .null, .null, .null, .null, .null, .null, .null])) := by rw [ew30]; exact fU_k (fw_new_ne h27 nq29) h27
  have h32 : w30 q15 = some (aZ g.2.1 6 (fun _ => 0)) := by rw [ew30]; exact fU_k (fw_new_ne h28 nq29) h28
  have h33 : w30 q29 = some (aZ g.2.1 6 (fun _ => 0)) := by rw [ew30]; exact fU_s _ _ _
  have n34 : w16 q29 = none := fU_none (by rw [← ew26]; exact nq29)
  have n35 : w13 q29 = none := fU_none (by rw [← ew16]; exact n34)
  have n36 : w11 q29 = none := fU_none (by rw [← ew13]; exact n35)
  have n37 : w9 q29 = none := fU_none (by rw [← ew11]; exact n36)
  have n38 : w7 q29 = none := fU_none (by rw [← ew9]; exact n37)
  have n39 : w5 q29 = none := fU_none (by rw [← ew7]; exact n38)
  have n40 : w3 q29 = none := fU_none (by rw [← ew5]; exact n39)
  have n41 : w1 q29 = none := fU_none (by rw [← ew3]; exact n40)
  have n42 : w q29 = none := fU_none (by rw [← ew1]; exact n41)
  have ne_q15_q29 : q15 ≠ q29 := fw_new_ne h28 nq29
  refine fw_putF (ci := 5) (v := .ref q29) (ty := .array .int) (C := rMo) (T := fMo) (N := 26) hx hb hts iMo yMo_t yMo_ok yMo_nm hown hK hF h31 rfl 8 (by decide) (hts _ t_516) (fun _ h9 => h9) rfl hin rfl (by decide +kernel) rfl rfl (Nat.le_of_ble_eq_true rfl) d_Mo_init_53 (fun H locs hF => ?_)
  obtain ⟨w43, ew43⟩ : ∃ zw : fw, zw = fU w30 b (.inr (5, [.int (iZ 0), .int (iZ 0), .int (iZ 0), .int (iZ 0), .int (iZ (-3)), .int (iZ (-1)), .int (bZ false), .ref q15, .ref q29, .null, .null, .null, .null, .null, .null, .null, .null, .null, .null, .null, .null, .null, .null, .null, .null, .null])) := ⟨_, rfl⟩
  have hF := fW_to ew43 hF
  have h44 : w43 b = some (.inr (5, [.int (iZ 0), .int (iZ 0), .int (iZ 0), .int (iZ 0), .int (iZ (-3)), .int (iZ (-1)), .int (bZ false), .ref q15, .ref q29, .null, .null, .null, .null, .null, .null, .null, .null, .null, .null, .null, .null, .null, .null, .null, .null, .null])) := by rw [ew43]; exact fU_s _ _ _
  have h45 : w43 q15 = some (aZ g.2.1 6 (fun _ => 0)) := by rw [ew43]; exact fU_k (fw_ne h32 h31 ne_lr) h32
  have h46 : w43 q29 = some (aZ g.2.1 6 (fun _ => 0)) := by rw [ew43]; exact fU_k (fw_ne h33 h31 ne_lr) h33
  refine lv_aload_n hx hb d_Mo_init_56 rfl (lv_at hl 0 rfl) ?_
  refine lv_bipush (v := iZ 6) hx hb d_Mo_init_57 (by decide) ?_
  refine fw_newa (N := 6) hx hb (hts _ t_123) hK hF hA rfl (by decide) (Nat.le_of_ble_eq_true rfl) (Nat.le_of_ble_eq_true rfl) d_Mo_init_59 (fun q47 H nq47 hF => ?_)
  obtain ⟨w48, ew48⟩ : ∃ zw : fw, zw = fU w43 q47 (aZ g.2.1 6 (fun _ => 0)) := ⟨_, rfl⟩
  have hF := fW_to ew48 hF
  have h49 : w48 b = some (.inr (5, [.int (iZ 0), .int (iZ 0), .int (iZ 0), .int (iZ 0), .int (iZ (-3)), .int (iZ (-1)), .int (bZ false), .ref q15, .ref q29, .null, .null, .null, .null, .null, .null, .null, .null, .null, .null, .null, .null, .null, .null, .null, .null, .null])) := by rw [ew48]; exact fU_k (fw_new_ne h44 nq47) h44
  have h50 : w48 q15 = some (aZ g.2.1 6 (fun _ => 0)) := by rw [ew48]; exact fU_k (fw_new_ne h45 nq47) h45
  have h51 : w48 q29 = some (aZ g.2.1 6 (fun _ => 0)) := by rw [ew48]; exact fU_k (fw_new_ne h46 nq47) h46
  have h52 : w48 q47 = some (aZ g.2.1 6 (fun _ => 0)) := by rw [ew48]; exact fU_s _ _ _
  have n53 : w30 q47 = none := fU_none (by rw [← ew43]; exact nq47)
  have n54 : w26 q47 = none := fU_none (by rw [← ew30]; exact n53)
  have n55 : w16 q47 = none := fU_none (by rw [← ew26]; exact n54)
  have n56 : w13 q47 = none := fU_none (by rw [← ew16]; exact n55)
  have n57 : w11 q47 = none := fU_none (by rw [← ew13]; exact n56)
  have n58 : w9 q47 = none := fU_none (by rw [← ew11]; exact n57)
  have n59 : w7 q47 = none := fU_none (by rw [← ew9]; exact n58)
  have n60 : w5 q47 = none := fU_none (by rw [← ew7]; exact n59)
  have n61 : w3 q47 = none := fU_none (by rw [← ew5]; exact n60)
  have n62 : w1 q47 = none := fU_none (by rw [← ew3]; exact n61)
  have n63 : w q47 = none := fU_none (by rw [← ew1]; exact n62)
  have ne_q15_q47 : q15 ≠ q47 := fw_new_ne h45 nq47
  have ne_q29_q47 : q29 ≠ q47 := fw_new_ne h46 nq47
  refine fw_putF (ci := 5) (v := .ref q47) (ty := .array .int) (C := rMo) (T := fMo) (N := 26) hx hb hts iMo yMo_t yMo_ok yMo_nm hown hK hF h49 rfl 9 (by decide) (hts _ t_517) (fun _ h9 => h9) rfl hin rfl (by decide +kernel) rfl rfl (Nat.le_of_ble_eq_true rfl) d_Mo_init_61 (fun H locs hF => ?_)
  obtain ⟨w64, ew64⟩ : ∃ zw : fw, zw = fU w48 b (.inr (5, [.int (iZ 0), .int (iZ 0), .int (iZ 0), .int (iZ 0), .int (iZ (-3)), .int (iZ (-1)), .int (bZ false), .ref q15, .ref q29, .ref q47, .null, .null, .null, .null, .null, .null, .null, .null, .null, .null, .null, .null, .null, .null, .null, .null])) := ⟨_, rfl⟩
  have hF := fW_to ew64 hF
  have h65 : w64 b = some (.inr (5, [.int (iZ 0), .int (iZ 0), .int (iZ 0), .int (iZ 0), .int (iZ (-3)), .int (iZ (-1)), .int (bZ false), .ref q15, .ref q29, .ref q47, .null, .null, .null, .null, .null, .null, .null, .null, .null, .null, .null, .null, .null, .null, .null, .null])) := by rw [ew64]; exact fU_s _ _ _
  have h66 : w64 q15 = some (aZ g.2.1 6 (fun _ => 0)) := by rw [ew64]; exact fU_k (fw_ne h50 h49 ne_lr) h50
  have h67 : w64 q29 = some (aZ g.2.1 6 (fun _ => 0)) := by rw [ew64]; exact fU_k (fw_ne h51 h49 ne_lr) h51
  have h68 : w64 q47 = some (aZ g.2.1 6 (fun _ => 0)) := by rw [ew64]; exact fU_k (fw_ne h52 h49 ne_lr) h52
  refine lv_aload_n hx hb d_Mo_init_64 rfl (lv_at hl 0 rfl) ?_
  refine lv_bipush (v := iZ 6) hx hb d_Mo_init_65 (by decide) ?_
  refine fw_newa (N := 6) hx hb (hts _ t_123) hK hF hA rfl (by decide) (Nat.le_of_ble_eq_true rfl) (Nat.le_of_ble_eq_true rfl) d_Mo_init_67 (fun q69 H nq69 hF => ?_)
  obtain ⟨w70, ew70⟩ : ∃ zw : fw, zw = fU w64 q69 (aZ g.2.1 6 (fun _ => 0)) := ⟨_, rfl⟩
  have hF := fW_to ew70 hF
  have h71 : w70 b = some (.inr (5, [.int (iZ 0), .int (iZ 0), .int (iZ 0), .int (iZ 0), .int (iZ (-3)), .int (iZ (-1)), .int (bZ false), .ref q15, .ref q29, .ref q47, .null, .null, .null, .null, .null, .null, .null, .null, .null, .null, .null, .null, .null, .null, .null, .null])) := by rw [ew70]; exact fU_k (fw_new_ne h65 nq69) h65
  have h72 : w70 q15 = some (aZ g.2.1 6 (fun _ => 0)) := by rw [ew70]; exact fU_k (fw_new_ne h66 nq69) h66
  have h73 : w70 q29 = some (aZ g.2.1 6 (fun _ => 0)) := by rw [ew70]; exact fU_k (fw_new_ne h67 nq69) h67
  have h74 : w70 q47 = some (aZ g.2.1 6 (fun _ => 0)) := by rw [ew70]; exact fU_k (fw_new_ne h68 nq69) h68
  have h75 : w70 q69 = some (aZ g.2.1 6 (fun _ => 0)) := by rw [ew70]; exact fU_s _ _ _
  have n76 : w48 q69 = none := fU_none (by rw [← ew64]; exact nq69)
  have n77 : w43 q69 = none := fU_none (by rw [← ew48]; exact n76)
  have n78 : w30 q69 = none := fU_none (by rw [← ew43]; exact n77)
  have n79 : w26 q69 = none := fU_none (by rw [← ew30]; exact n78)
  have n80 : w16 q69 = none := fU_none (by rw [← ew26]; exact n79)
  have n81 : w13 q69 = none := fU_none (by rw [← ew16]; exact n80)
  have n82 : w11 q69 = none := fU_none (by rw [← ew13]; exact n81)
  have n83 : w9 q69 = none := fU_none (by rw [← ew11]; exact n82)
  have n84 : w7 q69 = none := fU_none (by rw [← ew9]; exact n83)
  have n85 : w5 q69 = none := fU_none (by rw [← ew7]; exact n84)
  have n86 : w3 q69 = none := fU_none (by rw [← ew5]; exact n85)
  have n87 : w1 q69 = none := fU_none (by rw [← ew3]; exact n86)
  have n88 : w q69 = none := fU_none (by rw [← ew1]; exact n87)
  have ne_q15_q69 : q15 ≠ q69 := fw_new_ne h66 nq69
  have ne_q29_q69 : q29 ≠ q69 := fw_new_ne h67 nq69
  have ne_q47_q69 : q47 ≠ q69 := fw_new_ne h68 nq69
  refine fw_putF (ci := 5) (v := .ref q69) (ty := .array .int) (C := rMo) (T := fMo) (N := 26) hx hb hts iMo yMo_t yMo_ok yMo_nm hown hK hF h71 rfl 10 (by decide) (hts _ t_518) (fun _ h9 => h9) rfl hin rfl (by decide +kernel) rfl rfl (Nat.le_of_ble_eq_true rfl) d_Mo_init_69 (fun H locs hF => ?_)
  obtain ⟨w89, ew89⟩ : ∃ zw : fw, zw = fU w70 b (.inr (5, [.int (iZ 0), .int (iZ 0), .int (iZ 0), .int (iZ 0), .int (iZ (-3)), .int (iZ (-1)), .int (bZ false), .ref q15, .ref q29, .ref q47, .ref q69, .null, .null, .null, .null, .null, .null, .null, .null, .null, .null, .null, .null, .null, .null, .null])) := ⟨_, rfl⟩
  have hF := fW_to ew89 hF
  have h90 : w89 b = some (.inr (5, [.int (iZ 0), .int (iZ 0), .int (iZ 0), .int (iZ 0), .int (iZ (-3)), .int (iZ (-1)), .int (bZ false), .ref q15, .ref q29, .ref q47, .ref q69, .null, .null, .null, .null, .null, .null, .null, .null, .null, .null, .null, .null, .null, .null, .null])) := by rw [ew89]; exact fU_s _ _ _
  have h91 : w89 q15 = some (aZ g.2.1 6 (fun _ => 0)) := by rw [ew89]; exact fU_k (fw_ne h72 h71 ne_lr) h72
  have h92 : w89 q29 = some (aZ g.2.1 6 (fun _ => 0)) := by rw [ew89]; exact fU_k (fw_ne h73 h71 ne_lr) h73
  have h93 : w89 q47 = some (aZ g.2.1 6 (fun _ => 0)) := by rw [ew89]; exact fU_k (fw_ne h74 h71 ne_lr) h74
  have h94 : w89 q69 = some (aZ g.2.1 6 (fun _ => 0)) := by rw [ew89]; exact fU_k (fw_ne h75 h71 ne_lr) h75
  refine lv_aload_n hx hb d_Mo_init_72 rfl (lv_at hl 0 rfl) ?_
  refine lv_bipush (v := iZ 6) hx hb d_Mo_init_73 (by decide) ?_
  refine fw_newa (N := 6) hx hb (hts _ t_123) hK hF hA rfl (by decide) (Nat.le_of_ble_eq_true rfl) (Nat.le_of_ble_eq_true rfl) d_Mo_init_75 (fun q95 H nq95 hF => ?_)
  obtain ⟨w96, ew96⟩ : ∃ zw : fw, zw = fU w89 q95 (aZ g.2.1 6 (fun _ => 0)) := ⟨_, rfl⟩
  have hF := fW_to ew96 hF
  have h97 : w96 b = some (.inr (5, [.int (iZ 0), .int (iZ 0), .int (iZ 0), .int (iZ 0), .int (iZ (-3)), .int (iZ (-1)), .int (bZ false), .ref q15, .ref q29, .ref q47, .ref q69, .null, .null, .null, .null, .null, .null, .null, .null, .null, .null, .null, .null, .null, .null, .null])) := by rw [ew96]; exact fU_k (fw_new_ne h90 nq95) h90
  have h98 : w96 q15 = some (aZ g.2.1 6 (fun _ => 0)) := by rw [ew96]; exact fU_k (fw_new_ne h91 nq95) h91
  have h99 : w96 q29 = some (aZ g.2.1 6 (fun _ => 0)) := by rw [ew96]; exact fU_k (fw_new_ne h92 nq95) h92
  have h100 : w96 q47 = some (aZ g.2.1 6 (fun _ => 0)) := by rw [ew96]; exact fU_k (fw_new_ne h93 nq95) h93
  have h101 : w96 q69 = some (aZ g.2.1 6 (fun _ => 0)) := by rw [ew96]; exact fU_k (fw_new_ne h94 nq95) h94
  have h102 : w96 q95 = some (aZ g.2.1 6 (fun _ => 0)) := by rw [ew96]; exact fU_s _ _ _
  have n103 : w70 q95 = none := fU_none (by rw [← ew89]; exact nq95)
  have n104 : w64 q95 = none := fU_none (by rw [← ew70]; exact n103)
  have n105 : w48 q95 = none := fU_none (by rw [← ew64]; exact n104)
  have n106 : w43 q95 = none := fU_none (by rw [← ew48]; exact n105)
  have n107 : w30 q95 = none := fU_none (by rw [← ew43]; exact n106)
  have n108 : w26 q95 = none := fU_none (by rw [← ew30]; exact n107)
  have n109 : w16 q95 = none := fU_none (by rw [← ew26]; exact n108)
  have n110 : w13 q95 = none := fU_none (by rw [← ew16]; exact n109)
  have n111 : w11 q95 = none := fU_none (by rw [← ew13]; exact n110)
  have n112 : w9 q95 = none := fU_none (by rw [← ew11]; exact n111)
  have n113 : w7 q95 = none := fU_none (by rw [← ew9]; exact n112)
  have n114 : w5 q95 = none := fU_none (by rw [← ew7]; exact n113)
  have n115 : w3 q95 = none := fU_none (by rw [← ew5]; exact n114)
  have n116 : w1 q95 = none := fU_none (by rw [← ew3]; exact n115)
  have n117 : w q95 = none := fU_none (by rw [← ew1]; exact n116)
  have ne_q15_q95 : q15 ≠ q95 := fw_new_ne h91 nq95
  have ne_q29_q95 : q29 ≠ q95 := fw_new_ne h92 nq95
  have ne_q47_q95 : q47 ≠ q95 := fw_new_ne h93 nq95
  have ne_q69_q95 : q69 ≠ q95 := fw_new_ne h94 nq95
  refine fw_putF (ci := 5) (v := .ref q95) (ty := .array .int) (C := rMo) (T := fMo) (N := 26) hx hb hts iMo yMo_t yMo_ok yMo_nm hown hK hF h97 rfl 11 (by decide) (hts _ t_519) (fun _ h9 => h9) rfl hin rfl (by decide +kernel) rfl rfl (Nat.le_of_ble_eq_true rfl) d_Mo_init_77 (fun H locs hF => ?_)
  obtain ⟨w118, ew118⟩ : ∃ zw : fw, zw = fU w96 b (.inr (5, [.int (iZ 0), .int (iZ 0), .int (iZ 0), .int (iZ 0), .int (iZ (-3)), .int (iZ (-1)), .int (bZ false), .ref q15, .ref q29, .ref q47, .ref q69, .ref q95, .null, .null, .null, .null, .null, .null, .null, .null, .null, .null, .null, .null, .null, .null])) := ⟨_, rfl⟩
  have hF := fW_to ew118 hF
  have h119 : w118 b = some (.inr (5, [.int (iZ 0), .int (iZ 0), .int (iZ 0), .int (iZ 0), .int (iZ (-3)), .int (iZ (-1)), .int (bZ false), .ref q15, .ref q29, .ref q47, .ref q69, .ref q95, .null, .null, .null, .null, .null, .null, .null, .null, .null, .null, .null, .null, .null, .null])) := by rw [ew118]; exact fU_s _ _ _
  have h120 : w118 q15 = some (aZ g.2.1 6 (fun _ => 0)) := by rw [ew118]; exact fU_k (fw_ne h98 h97 ne_lr) h98
  have h121 : w118 q29 = some (aZ g.2.1 6 (fun _ => 0)) := by rw [ew118]; exact fU_k (fw_ne h99 h97 ne_lr) h99
  have h122 : w118 q47 = some (aZ g.2.1 6 (fun _ => 0)) := by rw [ew118]; exact fU_k (fw_ne h100 h97 ne_lr) h100
  have h123 : w118 q69 = some (aZ g.2.1 6 (fun _ => 0)) := by rw [ew118]; exact fU_k (fw_ne h101 h97 ne_lr) h101
  have h124 : w118 q95 = some (aZ g.2.1 6 (fun _ => 0)) := by rw [ew118]; exact fU_k (fw_ne h102 h97 ne_lr) h102
  refine lv_aload_n hx hb d_Mo_init_80 rfl (lv_at hl 0 rfl) ?_
  refine lv_iconst (v := iZ 4) hx hb d_Mo_init_81 rfl ?_
  refine fw_newa (N := 4) hx hb (hts _ t_123) hK hF hA rfl (by decide) (Nat.le_of_ble_eq_true rfl) (Nat.le_of_ble_eq_true rfl) d_Mo_init_82 (fun q125 H nq125 hF => ?_)
  obtain ⟨w126, ew126⟩ : ∃ zw : fw, zw = fU w118 q125 (aZ g.2.1 4 (fun _ => 0)) := ⟨_, rfl⟩
  have hF := fW_to ew126 hF
  have h127 : w126 b = some (.inr (5, [.int (iZ 0), .int (iZ 0), .int (iZ 0), .int (iZ 0), .int (iZ (-3)), .int (iZ (-1)), .int (bZ false), .ref q15, .ref q29, .ref q47, .ref q69, .ref q95, .null, .null, .null, .null, .null, .null, .null, .null, .null, .null, .null, .null, .null, .null])) := by rw [ew126]; exact fU_k (fw_new_ne h119 nq125) h119
  have h128 : w126 q15 = some (aZ g.2.1 6 (fun _ => 0)) := by rw [ew126]; exact fU_k (fw_new_ne h120 nq125) h120
  have h129 : w126 q29 = some (aZ g.2.1 6 (fun _ => 0)) := by rw [ew126]; exact fU_k (fw_new_ne h121 nq125) h121
  have h130 : w126 q47 = some (aZ g.2.1 6 (fun _ => 0)) := by rw [ew126]; exact fU_k (fw_new_ne h122 nq125) h122
  have h131 : w126 q69 = some (aZ g.2.1 6 (fun _ => 0)) := by rw [ew126]; exact fU_k (fw_new_ne h123 nq125) h123
  have h132 : w126 q95 = some (aZ g.2.1 6 (fun _ => 0)) := by rw [ew126]; exact fU_k (fw_new_ne h124 nq125) h124
  have h133 : w126 q125 = some (aZ g.2.1 4 (fun _ => 0)) := by rw [ew126]; exact fU_s _ _ _
  have n134 : w96 q125 = none := fU_none (by rw [← ew118]; exact nq125)
  have n135 : w89 q125 = none := fU_none (by rw [← ew96]; exact n134)
  have n136 : w70 q125 = none := fU_none (by rw [← ew89]; exact n135)
  have n137 : w64 q125 = none := fU_none (by rw [← ew70]; exact n136)
  have n138 : w48 q125 = none := fU_none (by rw [← ew64]; exact n137)
  have n139 : w43 q125 = none := fU_none (by rw [← ew48]; exact n138)
  have n140 : w30 q125 = none := fU_none (by rw [← ew43]; exact n139)
  have n141 : w26 q125 = none := fU_none (by rw [← ew30]; exact n140)
  have n142 : w16 q125 = none := fU_none (by rw [← ew26]; exact n141)
  have n143 : w13 q125 = none := fU_none (by rw [← ew16]; exact n142)
  have n144 : w11 q125 = none := fU_none (by rw [← ew13]; exact n143)
  have n145 : w9 q125 = none := fU_none (by rw [← ew11]; exact n144)
  have n146 : w7 q125 = none := fU_none (by rw [← ew9]; exact n145)
  have n147 : w5 q125 = none := fU_none (by rw [← ew7]; exact n146)
  have n148 : w3 q125 = none := fU_none (by rw [← ew5]; exact n147)
  have n149 : w1 q125 = none := fU_none (by rw [← ew3]; exact n148)
  have n150 : w q125 = none := fU_none (by rw [← ew1]; exact n149)
  have ne_q15_q125 : q15 ≠ q125 := fw_new_ne h120 nq125
  have ne_q29_q125 : q29 ≠ q125 := fw_new_ne h121 nq125
  have ne_q47_q125 : q47 ≠ q125 := fw_new_ne h122 nq125
  have ne_q69_q125 : q69 ≠ q125 := fw_new_ne h123 nq125
  have ne_q95_q125 : q95 ≠ q125 := fw_new_ne h124 nq125
  refine fw_putF (ci := 5) (v := .ref q125) (ty := .array .int) (C := rMo) (T := fMo) (N := 26) hx hb hts iMo yMo_t yMo_ok yMo_nm hown hK hF h127 rfl 12 (by decide) (hts _ t_520) (fun _ h9 => h9) rfl hin rfl (by decide +kernel) rfl rfl (Nat.le_of_ble_eq_true rfl) d_Mo_init_84 (fun H locs hF => ?_)
  obtain ⟨w151, ew151⟩ : ∃ zw : fw, zw = fU w126 b (.inr (5, [.int (iZ 0), .int (iZ 0), .int (iZ 0), .int (iZ 0), .int (iZ (-3)), .int (iZ (-1)), .int (bZ false), .ref q15, .ref q29, .ref q47, .ref q69, .ref q95, .ref q125, .null, .null, .null, .null, .null, .null, .null, .null, .null, .null, .null, .null, .null])) := ⟨_, rfl⟩
  have hF := fW_to ew151 hF
  have h152 : w151 b = some (.inr (5, [.int (iZ 0), .int (iZ 0), .int (iZ 0), .int (iZ 0), .int (iZ (-3)), .int (iZ (-1)), .int (bZ false), .ref q15, .ref q29, .ref q47, .ref q69, .ref q95, .ref q125, .null, .null, .null, .null, .null, .null, .null, .null, .null, .null, .null, .null, .null])) := by rw [ew151]; exact fU_s _ _ _
  have h153 : w151 q15 = some (aZ g.2.1 6 (fun _ => 0)) := by rw [ew151]; exact fU_k (fw_ne h128 h127 ne_lr) h128
  have h154 : w151 q29 = some (aZ g.2.1 6 (fun _ => 0)) := by rw [ew151]; exact fU_k (fw_ne h129 h127 ne_lr) h129
  have h155 : w151 q47 = some (aZ g.2.1 6 (fun _ => 0)) := by rw [ew151]; exact fU_k (fw_ne h130 h127 ne_lr) h130
  have h156 : w151 q69 = some (aZ g.2.1 6 (fun _ => 0)) := by rw [ew151]; exact fU_k (fw_ne h131 h127 ne_lr) h131
  have h157 : w151 q95 = some (aZ g.2.1 6 (fun _ => 0)) := by rw [ew151]; exact fU_k (fw_ne h132 h127 ne_lr) h132
  have h158 : w151 q125 = some (aZ g.2.1 4 (fun _ => 0)) := by rw [ew151]; exact fU_k (fw_ne h133 h127 ne_lr) h133
  refine lv_aload_n hx hb d_Mo_init_87 rfl (lv_at hl 0 rfl) ?_
  refine lv_bipush (v := iZ 6) hx hb d_Mo_init_88 (by decide) ?_
  refine fw_newa (N := 6) hx hb (hts _ t_123) hK hF hA rfl (by decide) (Nat.le_of_ble_eq_true rfl) (Nat.le_of_ble_eq_true rfl) d_Mo_init_90 (fun q159 H nq159 hF => ?_)
  obtain ⟨w160, ew160⟩ : ∃ zw : fw, zw = fU w151 q159 (aZ g.2.1 6 (fun _ => 0)) := ⟨_, rfl⟩
  have hF := fW_to ew160 hF
  have h161 : w160 b = some (.inr (5, [.int (iZ 0), .int (iZ 0), .int (iZ 0), .int (iZ 0), .int (iZ (-3)), .int (iZ (-1)), .int (bZ false), .ref q15, .ref q29, .ref q47, .ref q69, .ref q95, .ref q125, .null, .null, .null, .null, .null, .null, .null, .null, .null, .null, .null, .null, .null])) := by rw [ew160]; exact fU_k (fw_new_ne h152 nq159) h152
  have h162 : w160 q15 = some (aZ g.2.1 6 (fun _ => 0)) := by rw [ew160]; exact fU_k (fw_new_ne h153 nq159) h153
  have h163 : w160 q29 = some (aZ g.2.1 6 (fun _ => 0)) := by rw [ew160]; exact fU_k (fw_new_ne h154 nq159) h154
  have h164 : w160 q47 = some (aZ g.2.1 6 (fun _ => 0)) := by rw [ew160]; exact fU_k (fw_new_ne h155 nq159) h155
  have h165 : w160 q69 = some (aZ g.2.1 6 (fun _ => 0)) := by rw [ew160]; exact fU_k (fw_new_ne h156 nq159) h156
  have h166 : w160 q95 = some (aZ g.2.1 6 (fun _ => 0)) := by rw [ew160]; exact fU_k (fw_new_ne h157 nq159) h157
  have h167 : w160 q125 = some (aZ g.2.1 4 (fun _ => 0)) := by rw [ew160]; exact fU_k (fw_new_ne h158 nq159) h158
  have h168 : w160 q159 = some (aZ g.2.1 6 (fun _ => 0)) := by rw [ew160]; exact fU_s _ _ _
  have n169 : w126 q159 = none := fU_none (by rw [← ew151]; exact nq159)
  have n170 : w118 q159 = none := fU_none (by rw [← ew126]; exact n169)
  have n171 : w96 q159 = none := fU_none (by rw [← ew118]; exact n170)
  have n172 : w89 q159 = none := fU_none (by rw [← ew96]; exact n171)
  have n173 : w70 q159 = none := fU_none (by rw [← ew89]; exact n172)
  have n174 : w64 q159 = none := fU_none (by rw [← ew70]; exact n173)
  have n175 : w48 q159 = none := fU_none (by rw [← ew64]; exact n174)
  have n176 : w43 q159 = none := fU_none (by rw [← ew48]; exact n175)
  have n177 : w30 q159 = none := fU_none (by rw [← ew43]; exact n176)
  have n178 : w26 q159 = none := fU_none (by rw [← ew30]; exact n177)
  have n179 : w16 q159 = none := fU_none (by rw [← ew26]; exact n178)
  have n180 : w13 q159 = none := fU_none (by rw [← ew16]; exact n179)
  have n181 : w11 q159 = none := fU_none (by rw [← ew13]; exact n180)
  have n182 : w9 q159 = none := fU_none (by rw [← ew11]; exact n181)
  have n183 : w7 q159 = none := fU_none (by rw [← ew9]; exact n182)
  have n184 : w5 q159 = none := fU_none (by rw [← ew7]; exact n183)
  have n185 : w3 q159 = none := fU_none (by rw [← ew5]; exact n184)
  have n186 : w1 q159 = none := fU_none (by rw [← ew3]; exact n185)
  have n187 : w q159 = none := fU_none (by rw [← ew1]; exact n186)
  have ne_q15_q159 : q15 ≠ q159 := fw_new_ne h153 nq159
  have ne_q29_q159 : q29 ≠ q159 := fw_new_ne h154 nq159
  have ne_q47_q159 : q47 ≠ q159 := fw_new_ne h155 nq159
  have ne_q69_q159 : q69 ≠ q159 := fw_new_ne h156 nq159
  have ne_q95_q159 : q95 ≠ q159 := fw_new_ne h157 nq159
  have ne_q125_q159 : q125 ≠ q159 := fw_new_ne h158 nq159
  refine fw_putF (ci := 5) (v := .ref q159) (ty := .array .int) (C := rMo) (T := fMo) (N := 26) hx hb hts iMo yMo_t yMo_ok yMo_nm hown hK hF h161 rfl 13 (by decide) (hts _ t_521) (fun _ h9 => h9) rfl hin rfl (by decide +kernel) rfl rfl (Nat.le_of_ble_eq_true rfl) d_Mo_init_92 (fun H locs hF => ?_)
  obtain ⟨w188, ew188⟩ : ∃ zw : fw, zw = fU w160 b (.inr (5, [.int (iZ 0), .int (iZ 0), .int (iZ 0), .int (iZ 0), .int (iZ (-3)), .int (iZ (-1)), .int (bZ false), .ref q15, .ref q29, .ref q47, .ref q69, .ref q95, .ref q125, .ref q159, .null, .null, .null, .null, .null, .null, .null, .null, .null, .null, .null, .null])) := ⟨_, rfl⟩
  have hF := fW_to ew188 hF
  have h189 : w188 b = some (.inr (5, [.int (iZ 0), .int (iZ 0), .int (iZ 0), .int (iZ 0), .int (iZ (-3)), .int (iZ (-1)), .int (bZ false), .ref q15, .ref q29, .ref q47, .ref q69, .ref q95, .ref q125, .ref q159, .null, .null, .null, .null, .null, .null, .null, .null, .null, .null, .null, .null])) := by rw [ew188]; exact fU_s _ _ _
  have h190 : w188 q15 = some (aZ g.2.1 6 (fun _ => 0)) := by rw [ew188]; exact fU_k (fw_ne h162 h161 ne_lr) h162
  have h191 : w188 q29 = some (aZ g.2.1 6 (fun _ => 0)) := by rw [ew188]; exact fU_k (fw_ne h163 h161 ne_lr) h163
  have h192 : w188 q47 = some (aZ g.2.1 6 (fun _ => 0)) := by rw [ew188]; exact fU_k (fw_ne h164 h161 ne_lr) h164
  have h193 : w188 q69 = some (aZ g.2.1 6 (fun _ => 0)) := by rw [ew188]; exact fU_k (fw_ne h165 h161 ne_lr) h165
  have h194 : w188 q95 = some (aZ g.2.1 6 (fun _ => 0)) := by rw [ew188]; exact fU_k (fw_ne h166 h161 ne_lr) h166
  have h195 : w188 q125 = some (aZ g.2.1 4 (fun _ => 0)) := by rw [ew188]; exact fU_k (fw_ne h167 h161 ne_lr) h167
  have h196 : w188 q159 = some (aZ g.2.1 6 (fun _ => 0)) := by rw [ew188]; exact fU_k (fw_ne h168 h161 ne_lr) h168
  refine lv_aload_n hx hb d_Mo_init_95 rfl (lv_at hl 0 rfl) ?_
  refine lv_bipush (v := iZ 18) hx hb d_Mo_init_96 (by decide) ?_
  refine fw_newa (N := 18) hx hb (hts _ t_123) hK hF hA rfl (by decide) (Nat.le_of_ble_eq_true rfl) (Nat.le_of_ble_eq_true rfl) d_Mo_init_98 (fun q197 H nq197 hF => ?_)
  obtain ⟨w198, ew198⟩ : ∃ zw : fw, zw = fU w188 q197 (aZ g.2.1 18 (fun _ => 0)) := ⟨_, rfl⟩
  have hF := fW_to ew198 hF
  have h199 : w198 b = some (.inr (5, [.int (iZ 0), .int (iZ 0), .int (iZ 0), .int (iZ 0), .int (iZ (-3)), .int (iZ (-1)), .int (bZ false), .ref q15, .ref q29, .ref q47, .ref q69, .ref q95, .ref q125, .ref q159, .null, .null, .null, .null, .null, .null, .null, .null, .null, .null, .null, .null])) := by rw [ew198]; exact fU_k (fw_new_ne h189 nq197) h189
  have h200 : w198 q15 = some (aZ g.2.1 6 (fun _ => 0)) := by rw [ew198]; exact fU_k (fw_new_ne h190 nq197) h190
  have h201 : w198 q29 = some (aZ g.2.1 6 (fun _ => 0)) := by rw [ew198]; exact fU_k (fw_new_ne h191 nq197) h191
  have h202 : w198 q47 = some (aZ g.2.1 6 (fun _ => 0)) := by rw [ew198]; exact fU_k (fw_new_ne h192 nq197) h192
  have h203 : w198 q69 = some (aZ g.2.1 6 (fun _ => 0)) := by rw [ew198]; exact fU_k (fw_new_ne h193 nq197) h193
  have h204 : w198 q95 = some (aZ g.2.1 6 (fun _ => 0)) := by rw [ew198]; exact fU_k (fw_new_ne h194 nq197) h194
  have h205 : w198 q125 = some (aZ g.2.1 4 (fun _ => 0)) := by rw [ew198]; exact fU_k (fw_new_ne h195 nq197) h195
  have h206 : w198 q159 = some (aZ g.2.1 6 (fun _ => 0)) := by rw [ew198]; exact fU_k (fw_new_ne h196 nq197) h196
  have h207 : w198 q197 = some (aZ g.2.1 18 (fun _ => 0)) := by rw [ew198]; exact fU_s _ _ _
  have n208 : w160 q197 = none := fU_none (by rw [← ew188]; exact nq197)
  have n209 : w151 q197 = none := fU_none (by rw [← ew160]; exact n208)
  have n210 : w126 q197 = none := fU_none (by rw [← ew151]; exact n209)
  have n211 : w118 q197 = none := fU_none (by rw [← ew126]; exact n210)
  have n212 : w96 q197 = none := fU_none (by rw [← ew118]; exact n211)
  have n213 : w89 q197 = none := fU_none (by rw [← ew96]; exact n212)
  have n214 : w70 q197 = none := fU_none (by rw [← ew89]; exact n213)
  have n215 : w64 q197 = none := fU_none (by rw [← ew70]; exact n214)
  have n216 : w48 q197 = none := fU_none (by rw [← ew64]; exact n215)
  have n217 : w43 q197 = none := fU_none (by rw [← ew48]; exact n216)
  have n218 : w30 q197 = none := fU_none (by rw [← ew43]; exact n217)
  have n219 : w26 q197 = none := fU_none (by rw [← ew30]; exact n218)
  have n220 : w16 q197 = none := fU_none (by rw [← ew26]; exact n219)
  have n221 : w13 q197 = none := fU_none (by rw [← ew16]; exact n220)
  have n222 : w11 q197 = none := fU_none (by rw [← ew13]; exact n221)
  have n223 : w9 q197 = none := fU_none (by rw [← ew11]; exact n222)
  have n224 : w7 q197 = none := fU_none (by rw [← ew9]; exact n223)
  have n225 : w5 q197 = none := fU_none (by rw [← ew7]; exact n224)
  have n226 : w3 q197 = none := fU_none (by rw [← ew5]; exact n225)
  have n227 : w1 q197 = none := fU_none (by rw [← ew3]; exact n226)
  have n228 : w q197 = none := fU_none (by rw [← ew1]; exact n227)
  have ne_q15_q197 : q15 ≠ q197 := fw_new_ne h190 nq197
  have ne_q29_q197 : q29 ≠ q197 := fw_new_ne h191 nq197
  have ne_q47_q197 : q47 ≠ q197 := fw_new_ne h192 nq197
  have ne_q69_q197 : q69 ≠ q197 := fw_new_ne h193 nq197
  have ne_q95_q197 : q95 ≠ q197 := fw_new_ne h194 nq197
  have ne_q125_q197 : q125 ≠ q197 := fw_new_ne h195 nq197
  have ne_q159_q197 : q159 ≠ q197 := fw_new_ne h196 nq197
  refine fw_putF (ci := 5) (v := .ref q197) (ty := .array .int) (C := rMo) (T := fMo) (N := 26) hx hb hts iMo yMo_t yMo_ok yMo_nm hown hK hF h199 rfl 14 (by decide) (hts _ t_522) (fun _ h9 => h9) rfl hin rfl (by decide +kernel) rfl rfl (Nat.le_of_ble_eq_true rfl) d_Mo_init_100 (fun H locs hF => ?_)
  obtain ⟨w229, ew229⟩ : ∃ zw : fw, zw = fU w198 b (.inr (5, [.int (iZ 0), .int (iZ 0), .int (iZ 0), .int (iZ 0), .int (iZ (-3)), .int (iZ (-1)), .int (bZ false), .ref q15, .ref q29, .ref q47, .ref q69, .ref q95, .ref q125, .ref q159, .ref q197, .null, .null, .null, .null, .null, .null, .null, .null, .null, .null, .null])) := ⟨_, rfl⟩
  have hF := fW_to ew229 hF
  have h230 : w229 b = some (.inr (5, [.int (iZ 0), .int (iZ 0), .int (iZ 0), .int (iZ 0), .int (iZ (-3)), .int (iZ (-1)), .int (bZ false), .ref q15, .ref q29, .ref q47, .ref q69, .ref q95, .ref q125, .ref q159, .ref q197, .null, .null, .null, .null, .null, .null, .null, .null, .null, .null, .null])) := by rw [ew229]; exact fU_s _ _ _
  have h231 : w229 q15 = some (aZ g.2.1 6 (fun _ => 0)) := by rw [ew229]; exact fU_k (fw_ne h200 h199 ne_lr) h200
  have h232 : w229 q29 = some (aZ g.2.1 6 (fun _ => 0)) := by rw [ew229]; exact fU_k (fw_ne h201 h199 ne_lr) h201
  have h233 : w229 q47 = some (aZ g.2.1 6 (fun _ => 0)) := by rw [ew229]; exact fU_k (fw_ne h202 h199 ne_lr) h202
  have h234 : w229 q69 = some (aZ g.2.1 6 (fun _ => 0)) := by rw [ew229]; exact fU_k (fw_ne h203 h199 ne_lr) h203
  have h235 : w229 q95 = some (aZ g.2.1 6 (fun _ => 0)) := by rw [ew229]; exact fU_k (fw_ne h204 h199 ne_lr) h204
  have h236 : w229 q125 = some (aZ g.2.1 4 (fun _ => 0)) := by rw [ew229]; exact fU_k (fw_ne h205 h199 ne_lr) h205
  have h237 : w229 q159 = some (aZ g.2.1 6 (fun _ => 0)) := by rw [ew229]; exact fU_k (fw_ne h206 h199 ne_lr) h206
  have h238 : w229 q197 = some (aZ g.2.1 18 (fun _ => 0)) := by rw [ew229]; exact fU_k (fw_ne h207 h199 ne_lr) h207
  refine lv_aload_n hx hb d_Mo_init_103 rfl (lv_at hl 0 rfl) ?_
  refine lv_bipush (v := iZ 18) hx hb d_Mo_init_104 (by decide) ?_
  refine fw_newa (N := 18) hx hb (hts _ t_123) hK hF hA rfl (by decide) (Nat.le_of_ble_eq_true rfl) (Nat.le_of_ble_eq_true rfl) d_Mo_init_106 (fun q239 H nq239 hF => ?_)
  obtain ⟨w240, ew240⟩ : ∃ zw : fw, zw = fU w229 q239 (aZ g.2.1 18 (fun _ => 0)) := ⟨_, rfl⟩
  have hF := fW_to ew240 hF
  have h241 : w240 b = some (.inr (5, [.int (iZ 0), .int (iZ 0), .int (iZ 0), .int (iZ 0), .int (iZ (-3)), .int (iZ (-1)), .int (bZ false), .ref q15, .ref q29, .ref q47, .ref q69, .ref q95, .ref q125, .ref q159, .ref q197, .null, .null, .null, .null, .null, .null, .null, .null, .null, .null, .null])) := by rw [ew240]; exact fU_k (fw_new_ne h230 nq239) h230
  have h242 : w240 q15 = some (aZ g.2.1 6 (fun _ => 0)) := by rw [ew240]; exact fU_k (fw_new_ne h231 nq239) h231
  have h243 : w240 q29 = some (aZ g.2.1 6 (fun _ => 0)) := by rw [ew240]; exact fU_k (fw_new_ne h232 nq239) h232
  have h244 : w240 q47 = some (aZ g.2.1 6 (fun _ => 0)) := by rw [ew240]; exact fU_k (fw_new_ne h233 nq239) h233
  have h245 : w240 q69 = some (aZ g.2.1 6 (fun _ => 0)) := by rw [ew240]; exact fU_k (fw_new_ne h234 nq239) h234
  have h246 : w240 q95 = some (aZ g.2.1 6 (fun _ => 0)) := by rw [ew240]; exact fU_k (fw_new_ne h235 nq239) h235
  have h247 : w240 q125 = some (aZ g.2.1 4 (fun _ => 0)) := by rw [ew240]; exact fU_k (fw_new_ne h236 nq239) h236
  have h248 : w240 q159 = some (aZ g.2.1 6 (fun _ => 0)) := by rw [ew240]; exact fU_k (fw_new_ne h237 nq239) h237
  have h249 : w240 q197 = some (aZ g.2.1 18 (fun _ => 0)) := by rw [ew240]; exact fU_k (fw_new_ne h238 nq239) h238
  have h250 : w240 q239 = some (aZ g.2.1 18 (fun _ => 0)) := by rw [ew240]; exact fU_s _ _ _
  have n251 : w198 q239 = none := fU_none (by rw [← ew229]; exact nq239)
  have n252 : w188 q239 = none := fU_none (by rw [← ew198]; exact n251)
  have n253 : w160 q239 = none := fU_none (by rw [← ew188]; exact n252)
  have n254 : w151 q239 = none := fU_none (by rw [← ew160]; exact n253)
  have n255 : w126 q239 = none := fU_none (by rw [← ew151]; exact n254)
  have n256 : w118 q239 = none := fU_none (by rw [← ew126]; exact n255)
  have n257 : w96 q239 = none := fU_none (by rw [← ew118]; exact n256)
  have n258 : w89 q239 = none := fU_none (by rw [← ew96]; exact n257)
  have n259 : w70 q239 = none := fU_none (by rw [← ew89]; exact n258)
  have n260 : w64 q239 = none := fU_none (by rw [← ew70]; exact n259)
  have n261 : w48 q239 = none := fU_none (by rw [← ew64]; exact n260)
  have n262 : w43 q239 = none := fU_none (by rw [← ew48]; exact n261)
  have n263 : w30 q239 = none := fU_none (by rw [← ew43]; exact n262)
  have n264 : w26 q239 = none := fU_none (by rw [← ew30]; exact n263)
  have n265 : w16 q239 = none := fU_none (by rw [← ew26]; exact n264)
  have n266 : w13 q239 = none := fU_none (by rw [← ew16]; exact n265)
  have n267 : w11 q239 = none := fU_none (by rw [← ew13]; exact n266)
  have n268 : w9 q239 = none := fU_none (by rw [← ew11]; exact n267)
  have n269 : w7 q239 = none := fU_none (by rw [← ew9]; exact n268)
  have n270 : w5 q239 = none := fU_none (by rw [← ew7]; exact n269)
  have n271 : w3 q239 = none := fU_none (by rw [← ew5]; exact n270)
  have n272 : w1 q239 = none := fU_none (by rw [← ew3]; exact n271)
  have n273 : w q239 = none := fU_none (by rw [← ew1]; exact n272)
  have ne_q15_q239 : q15 ≠ q239 := fw_new_ne h231 nq239
  have ne_q29_q239 : q29 ≠ q239 := fw_new_ne h232 nq239
  have ne_q47_q239 : q47 ≠ q239 := fw_new_ne h233 nq239
  have ne_q69_q239 : q69 ≠ q239 := fw_new_ne h234 nq239
  have ne_q95_q239 : q95 ≠ q239 := fw_new_ne h235 nq239
  have ne_q125_q239 : q125 ≠ q239 := fw_new_ne h236 nq239
  have ne_q159_q239 : q159 ≠ q239 := fw_new_ne h237 nq239
  have ne_q197_q239 : q197 ≠ q239 := fw_new_ne h238 nq239
  refine fw_putF (ci := 5) (v := .ref q239) (ty := .array .int) (C := rMo) (T := fMo) (N := 26) hx hb hts iMo yMo_t yMo_ok yMo_nm hown hK hF h241 rfl 15 (by decide) (hts _ t_523) (fun _ h9 => h9) rfl hin rfl (by decide +kernel) rfl rfl (Nat.le_of_ble_eq_true rfl) d_Mo_init_108 (fun H locs hF => ?_)
  obtain ⟨w274, ew274⟩ : ∃ zw : fw, zw = fU w240 b (.inr (5, [.int (iZ 0), .int (iZ 0), .int (iZ 0), .int (iZ 0), .int (iZ (-3)), .int (iZ (-1)), .int (bZ false), .ref q15, .ref q29, .ref q47, .ref q69, .ref q95, .ref q125, .ref q159, .ref q197, .ref q239, .null, .null, .null, .null, .null, .null, .null, .null, .null, .null])) := ⟨_, rfl⟩
  have hF := fW_to ew274 hF
  have h275 : w274 b = some (.inr (5, [.int (iZ 0), .int (iZ 0), .int (iZ 0), .int (iZ 0), .int (iZ (-3)), .int (iZ (-1)), .int (bZ false), .ref q15, .ref q29, .ref q47, .ref q69, .ref q95, .ref q125, .ref q159, .ref q197, .ref q239, .null, .null, .null, .null, .null, .null, .null, .null, .null, .null])) := by rw [ew274]; exact fU_s _ _ _
  have h276 : w274 q15 = some (aZ g.2.1 6 (fun _ => 0)) := by rw [ew274]; exact fU_k (fw_ne h242 h241 ne_lr) h242
  have h277 : w274 q29 = some (aZ g.2.1 6 (fun _ => 0)) := by rw [ew274]; exact fU_k (fw_ne h243 h241 ne_lr) h243
  have h278 : w274 q47 = some (aZ g.2.1 6 (fun _ => 0)) := by rw [ew274]; exact fU_k (fw_ne h244 h241 ne_lr) h244
  have h279 : w274 q69 = some (aZ g.2.1 6 (fun _ => 0)) := by rw [ew274]; exact fU_k (fw_ne h245 h241 ne_lr) h245
  have h280 : w274 q95 = some (aZ g.2.1 6 (fun _ => 0)) := by rw [ew274]; exact fU_k (fw_ne h246 h241 ne_lr) h246
  have h281 : w274 q125 = some (aZ g.2.1 4 (fun _ => 0)) := by rw [ew274]; exact fU_k (fw_ne h247 h241 ne_lr) h247
  have h282 : w274 q159 = some (aZ g.2.1 6 (fun _ => 0)) := by rw [ew274]; exact fU_k (fw_ne h248 h241 ne_lr) h248
  have h283 : w274 q197 = some (aZ g.2.1 18 (fun _ => 0)) := by rw [ew274]; exact fU_k (fw_ne h249 h241 ne_lr) h249
  have h284 : w274 q239 = some (aZ g.2.1 18 (fun _ => 0)) := by rw [ew274]; exact fU_k (fw_ne h250 h241 ne_lr) h250
  refine lv_aload_n hx hb d_Mo_init_111 rfl (lv_at hl 0 rfl) ?_
  refine lv_bipush (v := iZ 18) hx hb d_Mo_init_112 (by decide) ?_
  refine fw_newa (N := 18) hx hb (hts _ t_123) hK hF hA rfl (by decide) (Nat.le_of_ble_eq_true rfl) (Nat.le_of_ble_eq_true rfl) d_Mo_init_114 (fun q285 H nq285 hF => ?_)
  obtain ⟨w286, ew286⟩ : ∃ zw : fw, zw = fU w274 q285 (aZ g.2.1 18 (fun _ => 0)) := ⟨_, rfl⟩
  have hF := fW_to ew286 hF
  have h287 : w286 b = some (.inr (5, [.int (iZ 0), .int (iZ 0), .int (iZ 0), .int (iZ 0), .int (iZ (-3)), .int (iZ (-1)), .int (bZ false), .ref q15, .ref q29, .ref q47, .ref q69, .ref q95, .ref q125, .ref q159, .ref q197, .ref q239, .null, .null, .null, .null, .null, .null, .null, .null, .null, .null])) := by rw [ew286]; exact fU_k (fw_new_ne h275 nq285) h275
  have h288 : w286 q15 = some (aZ g.2.1 6 (fun _ => 0)) := by rw [ew286]; exact fU_k (fw_new_ne h276 nq285) h276
  have h289 : w286 q29 = some (aZ g.2.1 6 (fun _ => 0)) := by rw [ew286]; exact fU_k (fw_new_ne h277 nq285) h277
  have h290 : w286 q47 = some (aZ g.2.1 6 (fun _ => 0)) := by rw [ew286]; exact fU_k (fw_new_ne h278 nq285) h278
  have h291 : w286 q69 = some (aZ g.2.1 6 (fun _ => 0)) := by rw [ew286]; exact fU_k (fw_new_ne h279 nq285) h279
  have h292 : w286 q95 = some (aZ g.2.1 6 (fun _ => 0)) := by rw [ew286]; exact fU_k (fw_new_ne h280 nq285) h280
  have h293 : w286 q125 = some (aZ g.2.1 4 (fun _ => 0)) := by rw [ew286]; exact fU_k (fw_new_ne h281 nq285) h281
  have h294 : w286 q159 = some (aZ g.2.1 6 (fun _ => 0)) := by rw [ew286]; exact fU_k (fw_new_ne h282 nq285) h282
  have h295 : w286 q197 = some (aZ g.2.1 18 (fun _ => 0)) := by rw [ew286]; exact fU_k (fw_new_ne h283 nq285) h283
  have h296 : w286 q239 = some (aZ g.2.1 18 (fun _ => 0)) := by rw [ew286]; exact fU_k (fw_new_ne h284 nq285) h284
  have h297 : w286 q285 = some (aZ g.2.1 18 (fun _ => 0)) := by rw [ew286]; exact fU_s _ _ _
  have n298 : w240 q285 = none := fU_none (by rw [← ew274]; exact nq285)
  have n299 : w229 q285 = none := fU_none (by rw [← ew240]; exact n298)
  have n300 : w198 q285 = none := fU_none (by rw [← ew229]; exact n299)
  have n301 : w188 q285 = none := fU_none (by rw [← ew198]; exact n300)
  have n302 : w160 q285 = none := fU_none (by rw [← ew188]; exact n301)
  have n303 : w151 q285 = none := fU_none (by rw [← ew160]; exact n302)
  have n304 : w126 q285 = none := fU_none (by rw [← ew151]; exact n303)
  have n305 : w118 q285 = none := fU_none (by rw [← ew126]; exact n304)
  have n306 : w96 q285 = none := fU_none (by rw [← ew118]; exact n305)
  have n307 : w89 q285 = none := fU_none (by rw [← ew96]; exact n306)
  have n308 : w70 q285 = none := fU_none (by rw [← ew89]; exact n307)
  have n309 : w64 q285 = none := fU_none (by rw [← ew70]; exact n308)
  have n310 : w48 q285 = none := fU_none (by rw [← ew64]; exact n309)
  have n311 : w43 q285 = none := fU_none (by rw [← ew48]; exact n310)
  have n312 : w30 q285 = none := fU_none (by rw [← ew43]; exact n311)
  have n313 : w26 q285 = none := fU_none (by rw [← ew30]; exact n312)
  have n314 : w16 q285 = none := fU_none (by rw [← ew26]; exact n313)
  have n315 : w13 q285 = none := fU_none (by rw [← ew16]; exact n314)
  have n316 : w11 q285 = none := fU_none (by rw [← ew13]; exact n315)
  have n317 : w9 q285 = none := fU_none (by rw [← ew11]; exact n316)
  have n318 : w7 q285 = none := fU_none (by rw [← ew9]; exact n317)
  have n319 : w5 q285 = none := fU_none (by rw [← ew7]; exact n318)
  have n320 : w3 q285 = none := fU_none (by rw [← ew5]; exact n319)
  have n321 : w1 q285 = none := fU_none (by rw [← ew3]; exact n320)
  have n322 : w q285 = none := fU_none (by rw [← ew1]; exact n321)
  have ne_q15_q285 : q15 ≠ q285 := fw_new_ne h276 nq285
  have ne_q29_q285 : q29 ≠ q285 := fw_new_ne h277 nq285
  have ne_q47_q285 : q47 ≠ q285 := fw_new_ne h278 nq285
  have ne_q69_q285 : q69 ≠ q285 := fw_new_ne h279 nq285
  have ne_q95_q285 : q95 ≠ q285 := fw_new_ne h280 nq285
  have ne_q125_q285 : q125 ≠ q285 := fw_new_ne h281 nq285
  have ne_q159_q285 : q159 ≠ q285 := fw_new_ne h282 nq285
  have ne_q197_q285 : q197 ≠ q285 := fw_new_ne h283 nq285
  have ne_q239_q285 : q239 ≠ q285 := fw_new_ne h284 nq285
  refine fw_putF (ci := 5) (v := .ref q285) (ty := .array .int) (C := rMo) (T := fMo) (N := 26) hx hb hts iMo yMo_t yMo_ok yMo_nm hown hK hF h287 rfl 16 (by decide) (hts _ t_524) (fun _ h9 => h9) rfl hin rfl (by decide +kernel) rfl rfl (Nat.le_of_ble_eq_true rfl) d_Mo_init_116 (fun H locs hF => ?_)
  obtain ⟨w323, ew323⟩ : ∃ zw : fw, zw = fU w286 b (.inr (5, [.int (iZ 0), .int (iZ 0), .int (iZ 0), .int (iZ 0), .int (iZ (-3)), .int (iZ (-1)), .int (bZ false), .ref q15, .ref q29, .ref q47, .ref q69, .ref q95, .ref q125, .ref q159, .ref q197, .ref q239, .ref q285, .null, .null, .null, .null, .null, .null, .null, .null, .null])) := ⟨_, rfl⟩
  have hF := fW_to ew323 hF
  have h324 : w323 b = some (.inr (5, [.int (iZ 0), .int (iZ 0), .int (iZ 0), .int (iZ 0), .int (iZ (-3)), .int (iZ (-1)), .int (bZ false), .ref q15, .ref q29, .ref q47, .ref q69, .ref q95, .ref q125, .ref q159, .ref q197, .ref q239, .ref q285, .null, .null, .null, .null, .null, .null, .null, .null, .null])) := by rw [ew323]; exact fU_s _ _ _
  have h325 : w323 q15 = some (aZ g.2.1 6 (fun _ => 0)) := by rw [ew323]; exact fU_k (fw_ne h288 h287 ne_lr) h288
  have h326 : w323 q29 = some (aZ g.2.1 6 (fun _ => 0)) := by rw [ew323]; exact fU_k (fw_ne h289 h287 ne_lr) h289
  have h327 : w323 q47 = some (aZ g.2.1 6 (fun _ => 0)) := by rw [ew323]; exact fU_k (fw_ne h290 h287 ne_lr) h290
  have h328 : w323 q69 = some (aZ g.2.1 6 (fun _ => 0)) := by rw [ew323]; exact fU_k (fw_ne h291 h287 ne_lr) h291
  have h329 : w323 q95 = some (aZ g.2.1 6 (fun _ => 0)) := by rw [ew323]; exact fU_k (fw_ne h292 h287 ne_lr) h292
  have h330 : w323 q125 = some (aZ g.2.1 4 (fun _ => 0)) := by rw [ew323]; exact fU_k (fw_ne h293 h287 ne_lr) h293
  have h331 : w323 q159 = some (aZ g.2.1 6 (fun _ => 0)) := by rw [ew323]; exact fU_k (fw_ne h294 h287 ne_lr) h294
  have h332 : w323 q197 = some (aZ g.2.1 18 (fun _ => 0)) := by rw [ew323]; exact fU_k (fw_ne h295 h287 ne_lr) h295
  have h333 : w323 q239 = some (aZ g.2.1 18 (fun _ => 0)) := by rw [ew323]; exact fU_k (fw_ne h296 h287 ne_lr) h296
  have h334 : w323 q285 = some (aZ g.2.1 18 (fun _ => 0)) := by rw [ew323]; exact fU_k (fw_ne h297 h287 ne_lr) h297
  refine lv_aload_n hx hb d_Mo_init_119 rfl (lv_at hl 0 rfl) ?_
  refine lv_bipush (v := iZ 6) hx hb d_Mo_init_120 (by decide) ?_
  refine fw_newa (N := 6) hx hb (hts _ t_123) hK hF hA rfl (by decide) (Nat.le_of_ble_eq_true rfl) (Nat.le_of_ble_eq_true rfl) d_Mo_init_122 (fun q335 H nq335 hF => ?_)
  obtain ⟨w336, ew336⟩ : ∃ zw : fw, zw = fU w323 q335 (aZ g.2.1 6 (fun _ => 0)) := ⟨_, rfl⟩
  have hF := fW_to ew336 hF
  have h337 : w336 b = some (.inr (5, [.int (iZ 0), .int (iZ 0), .int (iZ 0), .int (iZ 0), .int (iZ (-3)), .int (iZ (-1)), .int (bZ false), .ref q15, .ref q29, .ref q47, .ref q69, .ref q95, .ref q125, .ref q159, .ref q197, .ref q239, .ref q285, .null, .null, .null, .null, .null, .null, .null, .null, .null])) := by rw [ew336]; exact fU_k (fw_new_ne h324 nq335) h324
  have h338 : w336 q15 = some (aZ g.2.1 6 (fun _ => 0)) := by rw [ew336]; exact fU_k (fw_new_ne h325 nq335) h325
  have h339 : w336 q29 = some (aZ g.2.1 6 (fun _ => 0)) := by rw [ew336]; exact fU_k (fw_new_ne h326 nq335) h326
  have h340 : w336 q47 = some (aZ g.2.1 6 (fun _ => 0)) := by rw [ew336]; exact fU_k (fw_new_ne h327 nq335) h327
  have h341 : w336 q69 = some (aZ g.2.1 6 (fun _ => 0)) := by rw [ew336]; exact fU_k (fw_new_ne h328 nq335) h328
  have h342 : w336 q95 = some (aZ g.2.1 6 (fun _ => 0)) := by rw [ew336]; exact fU_k (fw_new_ne h329 nq335) h329
  have h343 : w336 q125 = some (aZ g.2.1 4 (fun _ => 0)) := by rw [ew336]; exact fU_k (fw_new_ne h330 nq335) h330
  have h344 : w336 q159 = some (aZ g.2.1 6 (fun _ => 0)) := by rw [ew336]; exact fU_k (fw_new_ne h331 nq335) h331
  have h345 : w336 q197 = some (aZ g.2.1 18 (fun _ => 0)) := by rw [ew336]; exact fU_k (fw_new_ne h332 nq335) h332
  have h346 : w336 q239 = some (aZ g.2.1 18 (fun _ => 0)) := by rw [ew336]; exact fU_k (fw_new_ne h333 nq335) h333
  have h347 : w336 q285 = some (aZ g.2.1 18 (fun _ => 0)) := by rw [ew336]; exact fU_k (fw_new_ne h334 nq335) h334
  have h348 : w336 q335 = some (aZ g.2.1 6 (fun _ => 0)) := by rw [ew336]; exact fU_s _ _ _
  have n349 : w286 q335 = none := fU_none (by rw [← ew323]; exact nq335)
  have n350 : w274 q335 = none := fU_none (by rw [← ew286]; exact n349)
  have n351 : w240 q335 = none := fU_none (by rw [← ew274]; exact n350)
  have n352 : w229 q335 = none := fU_none (by rw [← ew240]; exact n351)
  have n353 : w198 q335 = none := fU_none (by rw [← ew229]; exact n352)
  have n354 : w188 q335 = none := fU_none (by rw [← ew198]; exact n353)
  have n355 : w160 q335 = none := fU_none (by rw [← ew188]; exact n354)
  have n356 : w151 q335 = none := fU_none (by rw [← ew160]; exact n355)
  have n357 : w126 q335 = none := fU_none (by rw [← ew151]; exact n356)
  have n358 : w118 q335 = none := fU_none (by rw [← ew126]; exact n357)
  have n359 : w96 q335 = none := fU_none (by rw [← ew118]; exact n358)
  have n360 : w89 q335 = none := fU_none (by rw [← ew96]; exact n359)
  have n361 : w70 q335 = none := fU_none (by rw [← ew89]; exact n360)
  have n362 : w64 q335 = none := fU_none (by rw [← ew70]; exact n361)
  have n363 : w48 q335 = none := fU_none (by rw [← ew64]; exact n362)
  have n364 : w43 q335 = none := fU_none (by rw [← ew48]; exact n363)
  have n365 : w30 q335 = none := fU_none (by rw [← ew43]; exact n364)
  have n366 : w26 q335 = none := fU_none (by rw [← ew30]; exact n365)
  have n367 : w16 q335 = none := fU_none (by rw [← ew26]; exact n366)
  have n368 : w13 q335 = none := fU_none (by rw [← ew16]; exact n367)
  have n369 : w11 q335 = none := fU_none (by rw [← ew13]; exact n368)
  have n370 : w9 q335 = none := fU_none (by rw [← ew11]; exact n369)
  have n371 : w7 q335 = none := fU_none (by rw [← ew9]; exact n370)
  have n372 : w5 q335 = none := fU_none (by rw [← ew7]; exact n371)
  have n373 : w3 q335 = none := fU_none (by rw [← ew5]; exact n372)
  have n374 : w1 q335 = none := fU_none (by rw [← ew3]; exact n373)
  have n375 : w q335 = none := fU_none (by rw [← ew1]; exact n374)
  have ne_q15_q335 : q15 ≠ q335 := fw_new_ne h325 nq335
  have ne_q29_q335 : q29 ≠ q335 := fw_new_ne h326 nq335
  have ne_q47_q335 : q47 ≠ q335 := fw_new_ne h327 nq335
  have ne_q69_q335 : q69 ≠ q335 := fw_new_ne h328 nq335
  have ne_q95_q335 : q95 ≠ q335 := fw_new_ne h329 nq335
  have ne_q125_q335 : q125 ≠ q335 := fw_new_ne h330 nq335
  have ne_q159_q335 : q159 ≠ q335 := fw_new_ne h331 nq335
  have ne_q197_q335 : q197 ≠ q335 := fw_new_ne h332 nq335
  have ne_q239_q335 : q239 ≠ q335 := fw_new_ne h333 nq335
  have ne_q285_q335 : q285 ≠ q335 := fw_new_ne h334 nq335
  refine fw_putF (ci := 5) (v := .ref q335) (ty := .array .int) (C := rMo) (T := fMo) (N := 26) hx hb hts iMo yMo_t yMo_ok yMo_nm hown hK hF h337 rfl 17 (by decide) (hts _ t_525) (fun _ h9 => h9) rfl hin rfl (by decide +kernel) rfl rfl (Nat.le_of_ble_eq_true rfl) d_Mo_init_124 (fun H locs hF => ?_)
  obtain ⟨w376, ew376⟩ : ∃ zw : fw, zw = fU w336 b (.inr (5, [.int (iZ 0), .int (iZ 0), .int (iZ 0), .int (iZ 0), .int (iZ (-3)), .int (iZ (-1)), .int (bZ false), .ref q15, .ref q29, .ref q47, .ref q69, .ref q95, .ref q125, .ref q159, .ref q197, .ref q239, .ref q285, .ref q335, .null, .null, .null, .null, .null, .null, .null, .null])) := ⟨_, rfl⟩
  have hF := fW_to ew376 hF
  have h377 : w376 b = some (.inr (5, [.int (iZ 0), .int (iZ 0), .int (iZ 0), .int (iZ 0), .int (iZ (-3)), .int (iZ (-1)), .int (bZ false), .ref q15, .ref q29, .ref q47, .ref q69, .ref q95, .ref q125, .ref q159, .ref q197, .ref q239, .ref q285, .ref q335, .null, .null, .null, .null, .null, .null, .null, .null])) := by rw [ew376]; exact fU_s _ _ _
  have h378 : w376 q15 = some (aZ g.2.1 6 (fun _ => 0)) := by rw [ew376]; exact fU_k (fw_ne h338 h337 ne_lr) h338
  have h379 : w376 q29 = some (aZ g.2.1 6 (fun _ => 0)) := by rw [ew376]; exact fU_k (fw_ne h339 h337 ne_lr) h339
  have h380 : w376 q47 = some (aZ g.2.1 6 (fun _ => 0)) := by rw [ew376]; exact fU_k (fw_ne h340 h337 ne_lr) h340
  have h381 : w376 q69 = some (aZ g.2.1 6 (fun _ => 0)) := by rw [ew376]; exact fU_k (fw_ne h341 h337 ne_lr) h341
  have h382 : w376 q95 = some (aZ g.2.1 6 (fun _ => 0)) := by rw [ew376]; exact fU_k (fw_ne h342 h337 ne_lr) h342
  have h383 : w376 q125 = some (aZ g.2.1 4 (fun _ => 0)) := by rw [ew376]; exact fU_k (fw_ne h343 h337 ne_lr) h343
  have h384 : w376 q159 = some (aZ g.2.1 6 (fun _ => 0)) := by rw [ew376]; exact fU_k (fw_ne h344 h337 ne_lr) h344
  have h385 : w376 q197 = some (aZ g.2.1 18 (fun _ => 0)) := by rw [ew376]; exact fU_k (fw_ne h345 h337 ne_lr) h345
  have h386 : w376 q239 = some (aZ g.2.1 18 (fun _ => 0)) := by rw [ew376]; exact fU_k (fw_ne h346 h337 ne_lr) h346
  have h387 : w376 q285 = some (aZ g.2.1 18 (fun _ => 0)) := by rw [ew376]; exact fU_k (fw_ne h347 h337 ne_lr) h347
  have h388 : w376 q335 = some (aZ g.2.1 6 (fun _ => 0)) := by rw [ew376]; exact fU_k (fw_ne h348 h337 ne_lr) h348
  refine lv_aload_n hx hb d_Mo_init_127 rfl (lv_at hl 0 rfl) ?_
  refine lv_bipush (v := iZ 48) hx hb d_Mo_init_128 (by decide) ?_
  refine fw_newa (N := 48) hx hb (hts _ t_123) hK hF hA rfl (by decide) (Nat.le_of_ble_eq_true rfl) (Nat.le_of_ble_eq_true rfl) d_Mo_init_130 (fun q389 H nq389 hF => ?_)
  obtain ⟨w390, ew390⟩ : ∃ zw : fw, zw = fU w376 q389 (aZ g.2.1 48 (fun _ => 0)) := ⟨_, rfl⟩
  have hF := fW_to ew390 hF
  have h391 : w390 b = some (.inr (5, [.int (iZ 0), .int (iZ 0), .int (iZ 0), .int (iZ 0), .int (iZ (-3)), .int (iZ (-1)), .int (bZ false), .ref q15, .ref q29, .ref q47, .ref q69, .ref q95, .ref q125, .ref q159, .ref q197, .ref q239, .ref q285, .ref q335, .null, .null, .null, .null, .null, .null, .null, .null])) := by rw [ew390]; exact fU_k (fw_new_ne h377 nq389) h377
  have h392 : w390 q15 = some (aZ g.2.1 6 (fun _ => 0)) := by rw [ew390]; exact fU_k (fw_new_ne h378 nq389) h378
  have h393 : w390 q29 = some (aZ g.2.1 6 (fun _ => 0)) := by rw [ew390]; exact fU_k (fw_new_ne h379 nq389) h379
  have h394 : w390 q47 = some (aZ g.2.1 6 (fun _ => 0)) := by rw [ew390]; exact fU_k (fw_new_ne h380 nq389) h380
  have h395 : w390 q69 = some (aZ g.2.1 6 (fun _ => 0)) := by rw [ew390]; exact fU_k (fw_new_ne h381 nq389) h381
  have h396 : w390 q95 = some (aZ g.2.1 6 (fun _ => 0)) := by rw [ew390]; exact fU_k (fw_new_ne h382 nq389) h382
  have h397 : w390 q125 = some (aZ g.2.1 4 (fun _ => 0)) := by rw [ew390]; exact fU_k (fw_new_ne h383 nq389) h383
  have h398 : w390 q159 = some (aZ g.2.1 6 (fun _ => 0)) := by rw [ew390]; exact fU_k (fw_new_ne h384 nq389) h384
  have h399 : w390 q197 = some (aZ g.2.1 18 (fun _ => 0)) := by rw [ew390]; exact fU_k (fw_new_ne h385 nq389) h385
  have h400 : w390 q239 = some (aZ g.2.1 18 (fun _ => 0)) := by rw [ew390]; exact fU_k (fw_new_ne h386 nq389) h386
  have h401 : w390 q285 = some (aZ g.2.1 18 (fun _ => 0)) := by rw [ew390]; exact fU_k (fw_new_ne h387 nq389) h387
  have h402 : w390 q335 = some (aZ g.2.1 6 (fun _ => 0)) := by rw [ew390]; exact fU_k (fw_new_ne h388 nq389) h388
  have h403 : w390 q389 = some (aZ g.2.1 48 (fun _ => 0)) := by rw [ew390]; exact fU_s _ _ _
  have n404 : w336 q389 = none := fU_none (by rw [← ew376]; exact nq389)
  have n405 : w323 q389 = none := fU_none (by rw [← ew336]; exact n404)
  have n406 : w286 q389 = none := fU_none (by rw [← ew323]; exact n405)
  have n407 : w274 q389 = none := fU_none (by rw [← ew286]; exact n406)
  have n408 : w240 q389 = none := fU_none (by rw [← ew274]; exact n407)
  have n409 : w229 q389 = none := fU_none (by rw [← ew240]; exact n408)
  have n410 : w198 q389 = none := fU_none (by rw [← ew229]; exact n409)
  have n411 : w188 q389 = none := fU_none (by rw [← ew198]; exact n410)
  have n412 : w160 q389 = none := fU_none (by rw [← ew188]; exact n411)
  have n413 : w151 q389 = none := fU_none (by rw [← ew160]; exact n412)
  have n414 : w126 q389 = none := fU_none (by rw [← ew151]; exact n413)
  have n415 : w118 q389 = none := fU_none (by rw [← ew126]; exact n414)
  have n416 : w96 q389 = none := fU_none (by rw [← ew118]; exact n415)
  have n417 : w89 q389 = none := fU_none (by rw [← ew96]; exact n416)
  have n418 : w70 q389 = none := fU_none (by rw [← ew89]; exact n417)
  have n419 : w64 q389 = none := fU_none (by rw [← ew70]; exact n418)
  have n420 : w48 q389 = none := fU_none (by rw [← ew64]; exact n419)
  have n421 : w43 q389 = none := fU_none (by rw [← ew48]; exact n420)
  have n422 : w30 q389 = none := fU_none (by rw [← ew43]; exact n421)
  have n423 : w26 q389 = none := fU_none (by rw [← ew30]; exact n422)
  have n424 : w16 q389 = none := fU_none (by rw [← ew26]; exact n423)
  have n425 : w13 q389 = none := fU_none (by rw [← ew16]; exact n424)
  have n426 : w11 q389 = none := fU_none (by rw [← ew13]; exact n425)
  have n427 : w9 q389 = none := fU_none (by rw [← ew11]; exact n426)
  have n428 : w7 q389 = none := fU_none (by rw [← ew9]; exact n427)
  have n429 : w5 q389 = none := fU_none (by rw [← ew7]; exact n428)
  have n430 : w3 q389 = none := fU_none (by rw [← ew5]; exact n429)
  have n431 : w1 q389 = none := fU_none (by rw [← ew3]; exact n430)
  have n432 : w q389 = none := fU_none (by rw [← ew1]; exact n431)
  have ne_q15_q389 : q15 ≠ q389 := fw_new_ne h378 nq389
  have ne_q29_q389 : q29 ≠ q389 := fw_new_ne h379 nq389
  have ne_q47_q389 : q47 ≠ q389 := fw_new_ne h380 nq389
  have ne_q69_q389 : q69 ≠ q389 := fw_new_ne h381 nq389
  have ne_q95_q389 : q95 ≠ q389 := fw_new_ne h382 nq389
  have ne_q125_q389 : q125 ≠ q389 := fw_new_ne h383 nq389
  have ne_q159_q389 : q159 ≠ q389 := fw_new_ne h384 nq389
  have ne_q197_q389 : q197 ≠ q389 := fw_new_ne h385 nq389
  have ne_q239_q389 : q239 ≠ q389 := fw_new_ne h386 nq389
  have ne_q285_q389 : q285 ≠ q389 := fw_new_ne h387 nq389
  have ne_q335_q389 : q335 ≠ q389 := fw_new_ne h388 nq389
  refine fw_putF (ci := 5) (v := .ref q389) (ty := .array .int) (C := rMo) (T := fMo) (N := 26) hx hb hts iMo yMo_t yMo_ok yMo_nm hown hK hF h391 rfl 18 (by decide) (hts _ t_526) (fun _ h9 => h9) rfl hin rfl (by decide +kernel) rfl rfl (Nat.le_of_ble_eq_true rfl) d_Mo_init_132 (fun H locs hF => ?_)
  obtain ⟨w433, ew433⟩ : ∃ zw : fw, zw = fU w390 b (.inr (5, [.int (iZ 0), .int (iZ 0), .int (iZ 0), .int (iZ 0), .int (iZ (-3)), .int (iZ (-1)), .int (bZ false), .ref q15, .ref q29, .ref q47, .ref q69, .ref q95, .ref q125, .ref q159, .ref q197, .ref q239, .ref q285, .ref q335, .ref q389, .null, .null, .null, .null, .null, .null, .null])) := ⟨_, rfl⟩
  have hF := fW_to ew433 hF
  have h434 : w433 b = some (.inr (5, [.int (iZ 0), .int (iZ 0), .int (iZ 0), .int (iZ 0), .int (iZ (-3)), .int (iZ (-1)), .int (bZ false), .ref q15, .ref q29, .ref q47, .ref q69, .ref q95, .ref q125, .ref q159, .ref q197, .ref q239, .ref q285, .ref q335, .ref q389, .null, .null, .null, .null, .null, .null, .null])) := by rw [ew433]; exact fU_s _ _ _
  have h435 : w433 q15 = some (aZ g.2.1 6 (fun _ => 0)) := by rw [ew433]; exact fU_k (fw_ne h392 h391 ne_lr) h392
  have h436 : w433 q29 = some (aZ g.2.1 6 (fun _ => 0)) := by rw [ew433]; exact fU_k (fw_ne h393 h391 ne_lr) h393
  have h437 : w433 q47 = some (aZ g.2.1 6 (fun _ => 0)) := by rw [ew433]; exact fU_k (fw_ne h394 h391 ne_lr) h394
  have h438 : w433 q69 = some (aZ g.2.1 6 (fun _ => 0)) := by rw [ew433]; exact fU_k (fw_ne h395 h391 ne_lr) h395
  have h439 : w433 q95 = some (aZ g.2.1 6 (fun _ => 0)) := by rw [ew433]; exact fU_k (fw_ne h396 h391 ne_lr) h396
  have h440 : w433 q125 = some (aZ g.2.1 4 (fun _ => 0)) := by rw [ew433]; exact fU_k (fw_ne h397 h391 ne_lr) h397
  have h441 : w433 q159 = some (aZ g.2.1 6 (fun _ => 0)) := by rw [ew433]; exact fU_k (fw_ne h398 h391 ne_lr) h398
  have h442 : w433 q197 = some (aZ g.2.1 18 (fun _ => 0)) := by rw [ew433]; exact fU_k (fw_ne h399 h391 ne_lr) h399
  have h443 : w433 q239 = some (aZ g.2.1 18 (fun _ => 0)) := by rw [ew433]; exact fU_k (fw_ne h400 h391 ne_lr) h400
  have h444 : w433 q285 = some (aZ g.2.1 18 (fun _ => 0)) := by rw [ew433]; exact fU_k (fw_ne h401 h391 ne_lr) h401
  have h445 : w433 q335 = some (aZ g.2.1 6 (fun _ => 0)) := by rw [ew433]; exact fU_k (fw_ne h402 h391 ne_lr) h402
  have h446 : w433 q389 = some (aZ g.2.1 48 (fun _ => 0)) := by rw [ew433]; exact fU_k (fw_ne h403 h391 ne_lr) h403
  refine lv_aload_n hx hb d_Mo_init_135 rfl (lv_at hl 0 rfl) ?_
  refine lv_bipush (v := iZ 6) hx hb d_Mo_init_136 (by decide) ?_
  refine fw_newa (N := 6) hx hb (hts _ t_123) hK hF hA rfl (by decide) (Nat.le_of_ble_eq_true rfl) (Nat.le_of_ble_eq_true rfl) d_Mo_init_138 (fun q447 H nq447 hF => ?_)
  obtain ⟨w448, ew448⟩ : ∃ zw : fw, zw = fU w433 q447 (aZ g.2.1 6 (fun _ => 0)) := ⟨_, rfl⟩
  have hF := fW_to ew448 hF
  have h449 : w448 b = some (.inr (5, [.int (iZ 0), .int (iZ 0), .int (iZ 0), .int (iZ 0), .int (iZ (-3)), .int (iZ (-1)), .int (bZ false), .ref q15, .ref q29, .ref q47, .ref q69, .ref q95, .ref q125, .ref q159, .ref q197, .ref q239, .ref q285, .ref q335, .ref q389, .null, .null, .null, .null, .null, .null, .null])) := by rw [ew448]; exact fU_k (fw_new_ne h434 nq447) h434
  have h450 : w448 q15 = some (aZ g.2.1 6 (fun _ => 0)) := by rw [ew448]; exact fU_k (fw_new_ne h435 nq447) h435
  have h451 : w448 q29 = some (aZ g.2.1 6 (fun _ => 0)) := by rw [ew448]; exact fU_k (fw_new_ne h436 nq447) h436
  have h452 : w448 q47 = some (aZ g.2.1 6 (fun _ => 0)) := by rw [ew448]; exact fU_k (fw_new_ne h437 nq447) h437
  have h453 : w448 q69 = some (aZ g.2.1 6 (fun _ => 0)) := by rw [ew448]; exact fU_k (fw_new_ne h438 nq447) h438
  have h454 : w448 q95 = some (aZ g.2.1 6 (fun _ => 0)) := by rw [ew448]; exact fU_k (fw_new_ne h439 nq447) h439
  have h455 : w448 q125 = some (aZ g.2.1 4 (fun _ => 0)) := by rw [ew448]; exact fU_k (fw_new_ne h440 nq447) h440
  have h456 : w448 q159 = some (aZ g.2.1 6 (fun _ => 0)) := by rw [ew448]; exact fU_k (fw_new_ne h441 nq447) h441
  have h457 : w448 q197 = some (aZ g.2.1 18 (fun _ => 0)) := by rw [ew448]; exact fU_k (fw_new_ne h442 nq447) h442
  have h458 : w448 q239 = some (aZ g.2.1 18 (fun _ => 0)) := by rw [ew448]; exact fU_k (fw_new_ne h443 nq447) h443
  have h459 : w448 q285 = some (aZ g.2.1 18 (fun _ => 0)) := by rw [ew448]; exact fU_k (fw_new_ne h444 nq447) h444
  have h460 : w448 q335 = some (aZ g.2.1 6 (fun _ => 0)) := by rw [ew448]; exact fU_k (fw_new_ne h445 nq447) h445
  have h461 : w448 q389 = some (aZ g.2.1 48 (fun _ => 0)) := by rw [ew448]; exact fU_k (fw_new_ne h446 nq447) h446
  have h462 : w448 q447 = some (aZ g.2.1 6 (fun _ => 0)) := by rw [ew448]; exact fU_s _ _ _
  have n463 : w390 q447 = none := fU_none (by rw [← ew433]; exact nq447)
  have n464 : w376 q447 = none := fU_none (by rw [← ew390]; exact n463)
  have n465 : w336 q447 = none := fU_none (by rw [← ew376]; exact n464)
  have n466 : w323 q447 = none := fU_none (by rw [← ew336]; exact n465)
  have n467 : w286 q447 = none := fU_none (by rw [← ew323]; exact n466)
  have n468 : w274 q447 = none := fU_none (by rw [← ew286]; exact n467)
  have n469 : w240 q447 = none := fU_none (by rw [← ew274]; exact n468)
  have n470 : w229 q447 = none := fU_none (by rw [← ew240]; exact n469)
  have n471 : w198 q447 = none := fU_none (by rw [← ew229]; exact n470)
  have n472 : w188 q447 = none := fU_none (by rw [← ew198]; exact n471)
  have n473 : w160 q447 = none := fU_none (by rw [← ew188]; exact n472)
  have n474 : w151 q447 = none := fU_none (by rw [← ew160]; exact n473)
  have n475 : w126 q447 = none := fU_none (by rw [← ew151]; exact n474)
  have n476 : w118 q447 = none := fU_none (by rw [← ew126]; exact n475)
  have n477 : w96 q447 = none := fU_none (by rw [← ew118]; exact n476)
  have n478 : w89 q447 = none := fU_none (by rw [← ew96]; exact n477)
  have n479 : w70 q447 = none := fU_none (by rw [← ew89]; exact n478)
  have n480 : w64 q447 = none := fU_none (by rw [← ew70]; exact n479)
  have n481 : w48 q447 = none := fU_none (by rw [← ew64]; exact n480)
  have n482 : w43 q447 = none := fU_none (by rw [← ew48]; exact n481)
  have n483 : w30 q447 = none := fU_none (by rw [← ew43]; exact n482)
  have n484 : w26 q447 = none := fU_none (by rw [← ew30]; exact n483)
  have n485 : w16 q447 = none := fU_none (by rw [← ew26]; exact n484)
  have n486 : w13 q447 = none := fU_none (by rw [← ew16]; exact n485)
  have n487 : w11 q447 = none := fU_none (by rw [← ew13]; exact n486)
  have n488 : w9 q447 = none := fU_none (by rw [← ew11]; exact n487)
  have n489 : w7 q447 = none := fU_none (by rw [← ew9]; exact n488)
  have n490 : w5 q447 = none := fU_none (by rw [← ew7]; exact n489)
  have n491 : w3 q447 = none := fU_none (by rw [← ew5]; exact n490)
  have n492 : w1 q447 = none := fU_none (by rw [← ew3]; exact n491)
  have n493 : w q447 = none := fU_none (by rw [← ew1]; exact n492)
  have ne_q15_q447 : q15 ≠ q447 := fw_new_ne h435 nq447
  have ne_q29_q447 : q29 ≠ q447 := fw_new_ne h436 nq447
  have ne_q47_q447 : q47 ≠ q447 := fw_new_ne h437 nq447
  have ne_q69_q447 : q69 ≠ q447 := fw_new_ne h438 nq447
  have ne_q95_q447 : q95 ≠ q447 := fw_new_ne h439 nq447
  have ne_q125_q447 : q125 ≠ q447 := fw_new_ne h440 nq447
  have ne_q159_q447 : q159 ≠ q447 := fw_new_ne h441 nq447
  have ne_q197_q447 : q197 ≠ q447 := fw_new_ne h442 nq447
  have ne_q239_q447 : q239 ≠ q447 := fw_new_ne h443 nq447
  have ne_q285_q447 : q285 ≠ q447 := fw_new_ne h444 nq447
  have ne_q335_q447 : q335 ≠ q447 := fw_new_ne h445 nq447
  have ne_q389_q447 : q389 ≠ q447 := fw_new_ne h446 nq447
  refine fw_putF (ci := 5) (v := .ref q447) (ty := .array .int) (C := rMo) (T := fMo) (N := 26) hx hb hts iMo yMo_t yMo_ok yMo_nm hown hK hF h449 rfl 19 (by decide) (hts _ t_527) (fun _ h9 => h9) rfl hin rfl (by decide +kernel) rfl rfl (Nat.le_of_ble_eq_true rfl) d_Mo_init_140 (fun H locs hF => ?_)
  obtain ⟨w494, ew494⟩ : ∃ zw : fw, zw = fU w448 b (.inr (5, [.int (iZ 0), .int (iZ 0), .int (iZ 0), .int (iZ 0), .int (iZ (-3)), .int (iZ (-1)), .int (bZ false), .ref q15, .ref q29, .ref q47, .ref q69, .ref q95, .ref q125, .ref q159, .ref q197, .ref q239, .ref q285, .ref q335, .ref q389, .ref q447, .null, .null, .null, .null, .null, .null])) := ⟨_, rfl⟩
  have hF := fW_to ew494 hF
  have h495 : w494 b = some (.inr (5, [.int (iZ 0), .int (iZ 0), .int (iZ 0), .int (iZ 0), .int (iZ (-3)), .int (iZ (-1)), .int (bZ false), .ref q15, .ref q29, .ref q47, .ref q69, .ref q95, .ref q125, .ref q159, .ref q197, .ref q239, .ref q285, .ref q335, .ref q389, .ref q447, .null, .null, .null, .null, .null, .null])) := by rw [ew494]; exact fU_s _ _ _
  have h496 : w494 q15 = some (aZ g.2.1 6 (fun _ => 0)) := by rw [ew494]; exact fU_k (fw_ne h450 h449 ne_lr) h450
  have h497 : w494 q29 = some (aZ g.2.1 6 (fun _ => 0)) := by rw [ew494]; exact fU_k (fw_ne h451 h449 ne_lr) h451
  have h498 : w494 q47 = some (aZ g.2.1 6 (fun _ => 0)) := by rw [ew494]; exact fU_k (fw_ne h452 h449 ne_lr) h452
  have h499 : w494 q69 = some (aZ g.2.1 6 (fun _ => 0)) := by rw [ew494]; exact fU_k (fw_ne h453 h449 ne_lr) h453
  have h500 : w494 q95 = some (aZ g.2.1 6 (fun _ => 0)) := by rw [ew494]; exact fU_k (fw_ne h454 h449 ne_lr) h454
  have h501 : w494 q125 = some (aZ g.2.1 4 (fun _ => 0)) := by rw [ew494]; exact fU_k (fw_ne h455 h449 ne_lr) h455
  have h502 : w494 q159 = some (aZ g.2.1 6 (fun _ => 0)) := by rw [ew494]; exact fU_k (fw_ne h456 h449 ne_lr) h456
  have h503 : w494 q197 = some (aZ g.2.1 18 (fun _ => 0)) := by rw [ew494]; exact fU_k (fw_ne h457 h449 ne_lr) h457
  have h504 : w494 q239 = some (aZ g.2.1 18 (fun _ => 0)) := by rw [ew494]; exact fU_k (fw_ne h458 h449 ne_lr) h458
  have h505 : w494 q285 = some (aZ g.2.1 18 (fun _ => 0)) := by rw [ew494]; exact fU_k (fw_ne h459 h449 ne_lr) h459
  have h506 : w494 q335 = some (aZ g.2.1 6 (fun _ => 0)) := by rw [ew494]; exact fU_k (fw_ne h460 h449 ne_lr) h460
  have h507 : w494 q389 = some (aZ g.2.1 48 (fun _ => 0)) := by rw [ew494]; exact fU_k (fw_ne h461 h449 ne_lr) h461
  have h508 : w494 q447 = some (aZ g.2.1 6 (fun _ => 0)) := by rw [ew494]; exact fU_k (fw_ne h462 h449 ne_lr) h462
  refine lv_aload_n hx hb d_Mo_init_143 rfl (lv_at hl 0 rfl) ?_
  refine lv_bipush (v := iZ 6) hx hb d_Mo_init_144 (by decide) ?_
  refine fw_newa (N := 6) hx hb (hts _ t_123) hK hF hA rfl (by decide) (Nat.le_of_ble_eq_true rfl) (Nat.le_of_ble_eq_true rfl) d_Mo_init_146 (fun q509 H nq509 hF => ?_)
  obtain ⟨w510, ew510⟩ : ∃ zw : fw, zw = fU w494 q509 (aZ g.2.1 6 (fun _ => 0)) := ⟨_, rfl⟩
  have hF := fW_to ew510 hF
  have h511 : w510 b = some (.inr (5, [.int (iZ 0), .int (iZ 0), .int (iZ 0), .int (iZ 0), .int (iZ (-3)), .int (iZ (-1)), .int (bZ false), .ref q15, .ref q29, .ref q47, .ref q69, .ref q95, .ref q125, .ref q159, .ref q197, .ref q239, .ref q285, .ref q335, .ref q389, .ref q447, .null, .null, .null, .null, .null, .null])) := by rw [ew510]; exact fU_k (fw_new_ne h495 nq509) h495
  have h512 : w510 q15 = some (aZ g.2.1 6 (fun _ => 0)) := by rw [ew510]; exact fU_k (fw_new_ne h496 nq509) h496
  have h513 : w510 q29 = some (aZ g.2.1 6 (fun _ => 0)) := by rw [ew510]; exact fU_k (fw_new_ne h497 nq509) h497
  have h514 : w510 q47 = some (aZ g.2.1 6 (fun _ => 0)) := by rw [ew510]; exact fU_k (fw_new_ne h498 nq509) h498
  have h515 : w510 q69 = some (aZ g.2.1 6 (fun _ => 0)) := by rw [ew510]; exact fU_k (fw_new_ne h499 nq509) h499
  have h516 : w510 q95 = some (aZ g.2.1 6 (fun _ => 0)) := by rw [ew510]; exact fU_k (fw_new_ne h500 nq509) h500
  have h517 : w510 q125 = some (aZ g.2.1 4 (fun _ => 0)) := by rw [ew510]; exact fU_k (fw_new_ne h501 nq509) h501
  have h518 : w510 q159 = some (aZ g.2.1 6 (fun _ => 0)) := by rw [ew510]; exact fU_k (fw_new_ne h502 nq509) h502
  have h519 : w510 q197 = some (aZ g.2.1 18 (fun _ => 0)) := by rw [ew510]; exact fU_k (fw_new_ne h503 nq509) h503
  have h520 : w510 q239 = some (aZ g.2.1 18 (fun _ => 0)) := by rw [ew510]; exact fU_k (fw_new_ne h504 nq509) h504
  have h521 : w510 q285 = some (aZ g.2.1 18 (fun _ => 0)) := by rw [ew510]; exact fU_k (fw_new_ne h505 nq509) h505
  have h522 : w510 q335 = some (aZ g.2.1 6 (fun _ => 0)) := by rw [ew510]; exact fU_k (fw_new_ne h506 nq509) h506
  have h523 : w510 q389 = some (aZ g.2.1 48 (fun _ => 0)) := by rw [ew510]; exact fU_k (fw_new_ne h507 nq509) h507
  have h524 : w510 q447 = some (aZ g.2.1 6 (fun _ => 0)) := by rw [ew510]; exact fU_k (fw_new_ne h508 nq509) h508
  have h525 : w510 q509 = some (aZ g.2.1 6 (fun _ => 0)) := by rw [ew510]; exact fU_s _ _ _
  have n526 : w448 q509 = none := fU_none (by rw [← ew494]; exact nq509)
  have n527 : w433 q509 = none := fU_none (by rw [← ew448]; exact n526)
  have n528 : w390 q509 = none := fU_none (by rw [← ew433]; exact n527)
  have n529 : w376 q509 = none := fU_none (by rw [← ew390]; exact n528)
  have n530 : w336 q509 = none := fU_none (by rw [← ew376]; exact n529)
  have n531 : w323 q509 = none := fU_none (by rw [← ew336]; exact n530)
  have n532 : w286 q509 = none := fU_none (by rw [← ew323]; exact n531)
  have n533 : w274 q509 = none := fU_none (by rw [← ew286]; exact n532)
  have n534 : w240 q509 = none := fU_none (by rw [← ew274]; exact n533)
  have n535 : w229 q509 = none := fU_none (by rw [← ew240]; exact n534)
  have n536 : w198 q509 = none := fU_none (by rw [← ew229]; exact n535)
  have n537 : w188 q509 = none := fU_none (by rw [← ew198]; exact n536)
  have n538 : w160 q509 = none := fU_none (by rw [← ew188]; exact n537)
  have n539 : w151 q509 = none := fU_none (by rw [← ew160]; exact n538)
  have n540 : w126 q509 = none := fU_none (by rw [← ew151]; exact n539)
  have n541 : w118 q509 = none := fU_none (by rw [← ew126]; exact n540)
  have n542 : w96 q509 = none := fU_none (by rw [← ew118]; exact n541)
  have n543 : w89 q509 = none := fU_none (by rw [← ew96]; exact n542)
  have n544 : w70 q509 = none := fU_none (by rw [← ew89]; exact n543)
  have n545 : w64 q509 = none := fU_none (by rw [← ew70]; exact n544)
  have n546 : w48 q509 = none := fU_none (by rw [← ew64]; exact n545)
  have n547 : w43 q509 = none := fU_none (by rw [← ew48]; exact n546)
  have n548 : w30 q509 = none := fU_none (by rw [← ew43]; exact n547)
  have n549 : w26 q509 = none := fU_none (by rw [← ew30]; exact n548)
  have n550 : w16 q509 = none := fU_none (by rw [← ew26]; exact n549)
  have n551 : w13 q509 = none := fU_none (by rw [← ew16]; exact n550)
  have n552 : w11 q509 = none := fU_none (by rw [← ew13]; exact n551)
  have n553 : w9 q509 = none := fU_none (by rw [← ew11]; exact n552)
  have n554 : w7 q509 = none := fU_none (by rw [← ew9]; exact n553)
  have n555 : w5 q509 = none := fU_none (by rw [← ew7]; exact n554)
  have n556 : w3 q509 = none := fU_none (by rw [← ew5]; exact n555)
  have n557 : w1 q509 = none := fU_none (by rw [← ew3]; exact n556)
  have n558 : w q509 = none := fU_none (by rw [← ew1]; exact n557)
  have ne_q15_q509 : q15 ≠ q509 := fw_new_ne h496 nq509
  have ne_q29_q509 : q29 ≠ q509 := fw_new_ne h497 nq509
  have ne_q47_q509 : q47 ≠ q509 := fw_new_ne h498 nq509
  have ne_q69_q509 : q69 ≠ q509 := fw_new_ne h499 nq509
  have ne_q95_q509 : q95 ≠ q509 := fw_new_ne h500 nq509
  have ne_q125_q509 : q125 ≠ q509 := fw_new_ne h501 nq509
  have ne_q159_q509 : q159 ≠ q509 := fw_new_ne h502 nq509
  have ne_q197_q509 : q197 ≠ q509 := fw_new_ne h503 nq509
  have ne_q239_q509 : q239 ≠ q509 := fw_new_ne h504 nq509
  have ne_q285_q509 : q285 ≠ q509 := fw_new_ne h505 nq509
  have ne_q335_q509 : q335 ≠ q509 := fw_new_ne h506 nq509
  have ne_q389_q509 : q389 ≠ q509 := fw_new_ne h507 nq509
  have ne_q447_q509 : q447 ≠ q509 := fw_new_ne h508 nq509
  refine fw_putF (ci := 5) (v := .ref q509) (ty := .array .int) (C := rMo) (T := fMo) (N := 26) hx hb hts iMo yMo_t yMo_ok yMo_nm hown hK hF h511 rfl 20 (by decide) (hts _ t_528) (fun _ h9 => h9) rfl hin rfl (by decide +kernel) rfl rfl (Nat.le_of_ble_eq_true rfl) d_Mo_init_148 (fun H locs hF => ?_)
  obtain ⟨w559, ew559⟩ : ∃ zw : fw, zw = fU w510 b (.inr (5, [.int (iZ 0), .int (iZ 0), .int (iZ 0), .int (iZ 0), .int (iZ (-3)), .int (iZ (-1)), .int (bZ false), .ref q15, .ref q29, .ref q47, .ref q69, .ref q95, .ref q125, .ref q159, .ref q197, .ref q239, .ref q285, .ref q335, .ref q389, .ref q447, .ref q509, .null, .null, .null, .null, .null])) := ⟨_, rfl⟩
  have hF := fW_to ew559 hF
  have h560 : w559 b = some (.inr (5, [.int (iZ 0), .int (iZ 0), .int (iZ 0), .int (iZ 0), .int (iZ (-3)), .int (iZ (-1)), .int (bZ false), .ref q15, .ref q29, .ref q47, .ref q69, .ref q95, .ref q125, .ref q159, .ref q197, .ref q239, .ref q285, .ref q335, .ref q389, .ref q447, .ref q509, .null, .null, .null, .null, .null])) := by rw [ew559]; exact fU_s _ _ _
  have h561 : w559 q15 = some (aZ g.2.1 6 (fun _ => 0)) := by rw [ew559]; exact fU_k (fw_ne h512 h511 ne_lr) h512
  have h562 : w559 q29 = some (aZ g.2.1 6 (fun _ => 0)) := by rw [ew559]; exact fU_k (fw_ne h513 h511 ne_lr) h513
  have h563 : w559 q47 = some (aZ g.2.1 6 (fun _ => 0)) := by rw [ew559]; exact fU_k (fw_ne h514 h511 ne_lr) h514
  have h564 : w559 q69 = some (aZ g.2.1 6 (fun _ => 0)) := by rw [ew559]; exact fU_k (fw_ne h515 h511 ne_lr) h515
  have h565 : w559 q95 = some (aZ g.2.1 6 (fun _ => 0)) := by rw [ew559]; exact fU_k (fw_ne h516 h511 ne_lr) h516
  have h566 : w559 q125 = some (aZ g.2.1 4 (fun _ => 0)) := by rw [ew559]; exact fU_k (fw_ne h517 h511 ne_lr) h517
  have h567 : w559 q159 = some (aZ g.2.1 6 (fun _ => 0)) := by rw [ew559]; exact fU_k (fw_ne h518 h511 ne_lr) h518
  have h568 : w559 q197 = some (aZ g.2.1 18 (fun _ => 0)) := by rw [ew559]; exact fU_k (fw_ne h519 h511 ne_lr) h519
  have h569 : w559 q239 = some (aZ g.2.1 18 (fun _ => 0)) := by rw [ew559]; exact fU_k (fw_ne h520 h511 ne_lr) h520
  have h570 : w559 q285 = some (aZ g.2.1 18 (fun _ => 0)) := by rw [ew559]; exact fU_k (fw_ne h521 h511 ne_lr) h521
  have h571 : w559 q335 = some (aZ g.2.1 6 (fun _ => 0)) := by rw [ew559]; exact fU_k (fw_ne h522 h511 ne_lr) h522
  have h572 : w559 q389 = some (aZ g.2.1 48 (fun _ => 0)) := by rw [ew559]; exact fU_k (fw_ne h523 h511 ne_lr) h523
  have h573 : w559 q447 = some (aZ g.2.1 6 (fun _ => 0)) := by rw [ew559]; exact fU_k (fw_ne h524 h511 ne_lr) h524
  have h574 : w559 q509 = some (aZ g.2.1 6 (fun _ => 0)) := by rw [ew559]; exact fU_k (fw_ne h525 h511 ne_lr) h525
  refine lv_aload_n hx hb d_Mo_init_151 rfl (lv_at hl 0 rfl) ?_
  refine lv_bipush (v := iZ 6) hx hb d_Mo_init_152 (by decide) ?_
  refine fw_newa (N := 6) hx hb (hts _ t_123) hK hF hA rfl (by decide) (Nat.le_of_ble_eq_true rfl) (Nat.le_of_ble_eq_true rfl) d_Mo_init_154 (fun q575 H nq575 hF => ?_)
  obtain ⟨w576, ew576⟩ : ∃ zw : fw, zw = fU w559 q575 (aZ g.2.1 6 (fun _ => 0)) := ⟨_, rfl⟩
  have hF := fW_to ew576 hF
  have h577 : w576 b = some (.inr (5, [.int (iZ 0), .int (iZ 0), .int (iZ 0), .int (iZ 0), .int (iZ (-3)), .int (iZ (-1)), .int (bZ false), .ref q15, .ref q29, .ref q47, .ref q69, .ref q95, .ref q125, .ref q159, .ref q197, .ref q239, .ref q285, .ref q335, .ref q389, .ref q447, .ref q509, .null, .null, .null, .null, .null])) := by rw [ew576]; exact fU_k (fw_new_ne h560 nq575) h560
  have h578 : w576 q15 = some (aZ g.2.1 6 (fun _ => 0)) := by rw [ew576]; exact fU_k (fw_new_ne h561 nq575) h561
  have h579 : w576 q29 = some (aZ g.2.1 6 (fun _ => 0)) := by rw [ew576]; exact fU_k (fw_new_ne h562 nq575) h562
  have h580 : w576 q47 = some (aZ g.2.1 6 (fun _ => 0)) := by rw [ew576]; exact fU_k (fw_new_ne h563 nq575) h563
  have h581 : w576 q69 = some (aZ g.2.1 6 (fun _ => 0)) := by rw [ew576]; exact fU_k (fw_new_ne h564 nq575) h564
  have h582 : w576 q95 = some (aZ g.2.1 6 (fun _ => 0)) := by rw [ew576]; exact fU_k (fw_new_ne h565 nq575) h565
  have h583 : w576 q125 = some (aZ g.2.1 4 (fun _ => 0)) := by rw [ew576]; exact fU_k (fw_new_ne h566 nq575) h566
  have h584 : w576 q159 = some (aZ g.2.1 6 (fun _ => 0)) := by rw [ew576]; exact fU_k (fw_new_ne h567 nq575) h567
  have h585 : w576 q197 = some (aZ g.2.1 18 (fun _ => 0)) := by rw [ew576]; exact fU_k (fw_new_ne h568 nq575) h568
  have h586 : w576 q239 = some (aZ g.2.1 18 (fun _ => 0)) := by rw [ew576]; exact fU_k (fw_new_ne h569 nq575) h569
  have h587 : w576 q285 = some (aZ g.2.1 18 (fun _ => 0)) := by rw [ew576]; exact fU_k (fw_new_ne h570 nq575) h570
  have h588 : w576 q335 = some (aZ g.2.1 6 (fun _ => 0)) := by rw [ew576]; exact fU_k (fw_new_ne h571 nq575) h571
  have h589 : w576 q389 = some (aZ g.2.1 48 (fun _ => 0)) := by rw [ew576]; exact fU_k (fw_new_ne h572 nq575) h572
  have h590 : w576 q447 = some (aZ g.2.1 6 (fun _ => 0)) := by rw [ew576]; exact fU_k (fw_new_ne h573 nq575) h573
  have h591 : w576 q509 = some (aZ g.2.1 6 (fun _ => 0)) := by rw [ew576]; exact fU_k (fw_new_ne h574 nq575) h574
  have h592 : w576 q575 = some (aZ g.2.1 6 (fun _ => 0)) := by rw [ew576]; exact fU_s _ _ _
  have n593 : w510 q575 = none := fU_none (by rw [← ew559]; exact nq575)
  have n594 : w494 q575 = none := fU_none (by rw [← ew510]; exact n593)
  have n595 : w448 q575 = none := fU_none (by rw [← ew494]; exact n594)
  have n596 : w433 q575 = none := fU_none (by rw [← ew448]; exact n595)
  have n597 : w390 q575 = none := fU_none (by rw [← ew433]; exact n596)
  have n598 : w376 q575 = none := fU_none (by rw [← ew390]; exact n597)
  have n599 : w336 q575 = none := fU_none (by rw [← ew376]; exact n598)
  have n600 : w323 q575 = none := fU_none (by rw [← ew336]; exact n599)
  have n601 : w286 q575 = none := fU_none (by rw [← ew323]; exact n600)
  have n602 : w274 q575 = none := fU_none (by rw [← ew286]; exact n601)
  have n603 : w240 q575 = none := fU_none (by rw [← ew274]; exact n602)
  have n604 : w229 q575 = none := fU_none (by rw [← ew240]; exact n603)
  have n605 : w198 q575 = none := fU_none (by rw [← ew229]; exact n604)
  have n606 : w188 q575 = none := fU_none (by rw [← ew198]; exact n605)
  have n607 : w160 q575 = none := fU_none (by rw [← ew188]; exact n606)
  have n608 : w151 q575 = none := fU_none (by rw [← ew160]; exact n607)
  have n609 : w126 q575 = none := fU_none (by rw [← ew151]; exact n608)
  have n610 : w118 q575 = none := fU_none (by rw [← ew126]; exact n609)
  have n611 : w96 q575 = none := fU_none (by rw [← ew118]; exact n610)
  have n612 : w89 q575 = none := fU_none (by rw [← ew96]; exact n611)
  have n613 : w70 q575 = none := fU_none (by rw [← ew89]; exact n612)
  have n614 : w64 q575 = none := fU_none (by rw [← ew70]; exact n613)
  have n615 : w48 q575 = none := fU_none (by rw [← ew64]; exact n614)
  have n616 : w43 q575 = none := fU_none (by rw [← ew48]; exact n615)
  have n617 : w30 q575 = none := fU_none (by rw [← ew43]; exact n616)
  have n618 : w26 q575 = none := fU_none (by rw [← ew30]; exact n617)
  have n619 : w16 q575 = none := fU_none (by rw [← ew26]; exact n618)
  have n620 : w13 q575 = none := fU_none (by rw [← ew16]; exact n619)
  have n621 : w11 q575 = none := fU_none (by rw [← ew13]; exact n620)
  have n622 : w9 q575 = none := fU_none (by rw [← ew11]; exact n621)
  have n623 : w7 q575 = none := fU_none (by rw [← ew9]; exact n622)
  have n624 : w5 q575 = none := fU_none (by rw [← ew7]; exact n623)
  have n625 : w3 q575 = none := fU_none (by rw [← ew5]; exact n624)
  have n626 : w1 q575 = none := fU_none (by rw [← ew3]; exact n625)
  have n627 : w q575 = none := fU_none (by rw [← ew1]; exact n626)
  have ne_q15_q575 : q15 ≠ q575 := fw_new_ne h561 nq575
  have ne_q29_q575 : q29 ≠ q575 := fw_new_ne h562 nq575
  have ne_q47_q575 : q47 ≠ q575 := fw_new_ne h563 nq575
  have ne_q69_q575 : q69 ≠ q575 := fw_new_ne h564 nq575
  have ne_q95_q575 : q95 ≠ q575 := fw_new_ne h565 nq575
  have ne_q125_q575 : q125 ≠ q575 := fw_new_ne h566 nq575
  have ne_q159_q575 : q159 ≠ q575 := fw_new_ne h567 nq575
  have ne_q197_q575 : q197 ≠ q575 := fw_new_ne h568 nq575
  have ne_q239_q575 : q239 ≠ q575 := fw_new_ne h569 nq575
  have ne_q285_q575 : q285 ≠ q575 := fw_new_ne h570 nq575
  have ne_q335_q575 : q335 ≠ q575 := fw_new_ne h571 nq575
  have ne_q389_q575 : q389 ≠ q575 := fw_new_ne h572 nq575
  have ne_q447_q575 : q447 ≠ q575 := fw_new_ne h573 nq575
  have ne_q509_q575 : q509 ≠ q575 := fw_new_ne h574 nq575
  refine fw_putF (ci := 5) (v := .ref q575) (ty := .array .int) (C := rMo) (T := fMo) (N := 26) hx hb hts iMo yMo_t yMo_ok yMo_nm hown hK hF h577 rfl 21 (by decide) (hts _ t_529) (fun _ h9 => h9) rfl hin rfl (by decide +kernel) rfl rfl (Nat.le_of_ble_eq_true rfl) d_Mo_init_156 (fun H locs hF => ?_)
  obtain ⟨w628, ew628⟩ : ∃ zw : fw, zw = fU w576 b (.inr (5, [.int (iZ 0), .int (iZ 0), .int (iZ 0), .int (iZ 0), .int (iZ (-3)), .int (iZ (-1)), .int (bZ false), .ref q15, .ref q29, .ref q47, .ref q69, .ref q95, .ref q125, .ref q159, .ref q197, .ref q239, .ref q285, .ref q335, .ref q389, .ref q447, .ref q509, .ref q575, .null, .null, .null, .null])) := ⟨_, rfl⟩
  have hF := fW_to ew628 hF
  have h629 : w628 b = some (.inr (5, [.int (iZ 0), .int (iZ 0), .int (iZ 0), .int (iZ 0), .int (iZ (-3)), .int (iZ (-1)), .int (bZ false), .ref q15, .ref q29, .ref q47, .ref q69, .ref q95, .ref q125, .ref q159, .ref q197, .ref q239, .ref q285, .ref q335, .ref q389, .ref q447, .ref q509, .ref q575, .null, .null, .null, .null])) := by rw [ew628]; exact fU_s _ _ _
  have h630 : w628 q15 = some (aZ g.2.1 6 (fun _ => 0)) := by rw [ew628]; exact fU_k (fw_ne h578 h577 ne_lr) h578
  have h631 : w628 q29 = some (aZ g.2.1 6 (fun _ => 0)) := by rw [ew628]; exact fU_k (fw_ne h579 h577 ne_lr) h579
  have h632 : w628 q47 = some (aZ g.2.1 6 (fun _ => 0)) := by rw [ew628]; exact fU_k (fw_ne h580 h577 ne_lr) h580
  have h633 : w628 q69 = some (aZ g.2.1 6 (fun _ => 0)) := by rw [ew628]; exact fU_k (fw_ne h581 h577 ne_lr) h581
  have h634 : w628 q95 = some (aZ g.2.1 6 (fun _ => 0)) := by rw [ew628]; exact fU_k (fw_ne h582 h577 ne_lr) h582
  have h635 : w628 q125 = some (aZ g.2.1 4 (fun _ => 0)) := by rw [ew628]; exact fU_k (fw_ne h583 h577 ne_lr) h583
  have h636 : w628 q159 = some (aZ g.2.1 6 (fun _ => 0)) := by rw [ew628]; exact fU_k (fw_ne h584 h577 ne_lr) h584
  have h637 : w628 q197 = some (aZ g.2.1 18 (fun _ => 0)) := by rw [ew628]; exact fU_k (fw_ne h585 h577 ne_lr) h585
  have h638 : w628 q239 = some (aZ g.2.1 18 (fun _ => 0)) := by rw [ew628]; exact fU_k (fw_ne h586 h577 ne_lr) h586
  have h639 : w628 q285 = some (aZ g.2.1 18 (fun _ => 0)) := by rw [ew628]; exact fU_k (fw_ne h587 h577 ne_lr) h587
  have h640 : w628 q335 = some (aZ g.2.1 6 (fun _ => 0)) := by rw [ew628]; exact fU_k (fw_ne h588 h577 ne_lr) h588
  have h641 : w628 q389 = some (aZ g.2.1 48 (fun _ => 0)) := by rw [ew628]; exact fU_k (fw_ne h589 h577 ne_lr) h589
  have h642 : w628 q447 = some (aZ g.2.1 6 (fun _ => 0)) := by rw [ew628]; exact fU_k (fw_ne h590 h577 ne_lr) h590
  have h643 : w628 q509 = some (aZ g.2.1 6 (fun _ => 0)) := by rw [ew628]; exact fU_k (fw_ne h591 h577 ne_lr) h591
  have h644 : w628 q575 = some (aZ g.2.1 6 (fun _ => 0)) := by rw [ew628]; exact fU_k (fw_ne h592 h577 ne_lr) h592
  refine lv_aload_n hx hb d_Mo_init_159 rfl (lv_at hl 0 rfl) ?_
  refine lv_bipush (v := iZ 6) hx hb d_Mo_init_160 (by decide) ?_
  refine fw_newa (N := 6) hx hb (hts _ t_123) hK hF hA rfl (by decide) (Nat.le_of_ble_eq_true rfl) (Nat.le_of_ble_eq_true rfl) d_Mo_init_162 (fun q645 H nq645 hF => ?_)
  obtain ⟨w646, ew646⟩ : ∃ zw : fw, zw = fU w628 q645 (aZ g.2.1 6 (fun _ => 0)) := ⟨_, rfl⟩
  have hF := fW_to ew646 hF
  have h647 : w646 b = some (.inr (5, [.int (iZ 0), .int (iZ 0), .int (iZ 0), .int (iZ 0), .int (iZ (-3)), .int (iZ (-1)), .int (bZ false), .ref q15, .ref q29, .ref q47, .ref q69, .ref q95, .ref q125, .ref q159, .ref q197, .ref q239, .ref q285, .ref q335, .ref q389, .ref q447, .ref q509, .ref q575, .null, .null, .null, .null])) := by rw [ew646]; exact fU_k (fw_new_ne h629 nq645) h629
  have h648 : w646 q15 = some (aZ g.2.1 6 (fun _ => 0)) := by rw [ew646]; exact fU_k (fw_new_ne h630 nq645) h630
  have h649 : w646 q29 = some (aZ g.2.1 6 (fun _ => 0)) := by rw [ew646]; exact fU_k (fw_new_ne h631 nq645) h631
  have h650 : w646 q47 = some (aZ g.2.1 6 (fun _ => 0)) := by rw [ew646]; exact fU_k (fw_new_ne h632 nq645) h632
  have h651 : w646 q69 = some (aZ g.2.1 6 (fun _ => 0)) := by rw [ew646]; exact fU_k (fw_new_ne h633 nq645) h633
  have h652 : w646 q95 = some (aZ g.2.1 6 (fun _ => 0)) := by rw [ew646]; exact fU_k (fw_new_ne h634 nq645) h634
  have h653 : w646 q125 = some (aZ g.2.1 4 (fun _ => 0)) := by rw [ew646]; exact fU_k (fw_new_ne h635 nq645) h635
  have h654 : w646 q159 = some (aZ g.2.1 6 (fun _ => 0)) := by rw [ew646]; exact fU_k (fw_new_ne h636 nq645) h636
  have h655 : w646 q197 = some (aZ g.2.1 18 (fun _ => 0)) := by rw [ew646]; exact fU_k (fw_new_ne h637 nq645) h637
  have h656 : w646 q239 = some (aZ g.2.1 18 (fun _ => 0)) := by rw [ew646]; exact fU_k (fw_new_ne h638 nq645) h638
  have h657 : w646 q285 = some (aZ g.2.1 18 (fun _ => 0)) := by rw [ew646]; exact fU_k (fw_new_ne h639 nq645) h639
  have h658 : w646 q335 = some (aZ g.2.1 6 (fun _ => 0)) := by rw [ew646]; exact fU_k (fw_new_ne h640 nq645) h640
  have h659 : w646 q389 = some (aZ g.2.1 48 (fun _ => 0)) := by rw [ew646]; exact fU_k (fw_new_ne h641 nq645) h641
  have h660 : w646 q447 = some (aZ g.2.1 6 (fun _ => 0)) := by rw [ew646]; exact fU_k (fw_new_ne h642 nq645) h642
  have h661 : w646 q509 = some (aZ g.2.1 6 (fun _ => 0)) := by rw [ew646]; exact fU_k (fw_new_ne h643 nq645) h643
  have h662 : w646 q575 = some (aZ g.2.1 6 (fun _ => 0)) := by rw [ew646]; exact fU_k (fw_new_ne h644 nq645) h644
  have h663 : w646 q645 = some (aZ g.2.1 6 (fun _ => 0)) := by rw [ew646]; exact fU_s _ _ _
  have n664 : w576 q645 = none := fU_none (by rw [← ew628]; exact nq645)
  have n665 : w559 q645 = none := fU_none (by rw [← ew576]; exact n664)
  have n666 : w510 q645 = none := fU_none (by rw [← ew559]; exact n665)
  have n667 : w494 q645 = none := fU_none (by rw [← ew510]; exact n666)
  have n668 : w448 q645 = none := fU_none (by rw [← ew494]; exact n667)
  have n669 : w433 q645 = none := fU_none (by rw [← ew448]; exact n668)
  have n670 : w390 q645 = none := fU_none (by rw [← ew433]; exact n669)
  have n671 : w376 q645 = none := fU_none (by rw [← ew390]; exact n670)
  have n672 : w336 q645 = none := fU_none (by rw [← ew376]; exact n671)
  have n673 : w323 q645 = none := fU_none (by rw [← ew336]; exact n672)
  have n674 : w286 q645 = none := fU_none (by rw [← ew323]; exact n673)
  have n675 : w274 q645 = none := fU_none (by rw [← ew286]; exact n674)
  have n676 : w240 q645 = none := fU_none (by rw [← ew274]; exact n675)
  have n677 : w229 q645 = none := fU_none (by rw [← ew240]; exact n676)
  have n678 : w198 q645 = none := fU_none (by rw [← ew229]; exact n677)
  have n679 : w188 q645 = none := fU_none (by rw [← ew198]; exact n678)
  have n680 : w160 q645 = none := fU_none (by rw [← ew188]; exact n679)
  have n681 : w151 q645 = none := fU_none (by rw [← ew160]; exact n680)
  have n682 : w126 q645 = none := fU_none (by rw [← ew151]; exact n681)
  have n683 : w118 q645 = none := fU_none (by rw [← ew126]; exact n682)
  have n684 : w96 q645 = none := fU_none (by rw [← ew118]; exact n683)
  have n685 : w89 q645 = none := fU_none (by rw [← ew96]; exact n684)
  have n686 : w70 q645 = none := fU_none (by rw [← ew89]; exact n685)
  have n687 : w64 q645 = none := fU_none (by rw [← ew70]; exact n686)
  have n688 : w48 q645 = none := fU_none (by rw [← ew64]; exact n687)
  have n689 : w43 q645 = none := fU_none (by rw [← ew48]; exact n688)
  have n690 : w30 q645 = none := fU_none (by rw [← ew43]; exact n689)
  have n691 : w26 q645 = none := fU_none (by rw [← ew30]; exact n690)
  have n692 : w16 q645 = none := fU_none (by rw [← ew26]; exact n691)
  have n693 : w13 q645 = none := fU_none (by rw [← ew16]; exact n692)
  have n694 : w11 q645 = none := fU_none (by rw [← ew13]; exact n693)
  have n695 : w9 q645 = none := fU_none (by rw [← ew11]; exact n694)
  have n696 : w7 q645 = none := fU_none (by rw [← ew9]; exact n695)
  have n697 : w5 q645 = none := fU_none (by rw [← ew7]; exact n696)
  have n698 : w3 q645 = none := fU_none (by rw [← ew5]; exact n697)
  have n699 : w1 q645 = none := fU_none (by rw [← ew3]; exact n698)
  have n700 : w q645 = none := fU_none (by rw [← ew1]; exact n699)
  have ne_q15_q645 : q15 ≠ q645 := fw_new_ne h630 nq645
  have ne_q29_q645 : q29 ≠ q645 := fw_new_ne h631 nq645
  have ne_q47_q645 : q47 ≠ q645 := fw_new_ne h632 nq645
  have ne_q69_q645 : q69 ≠ q645 := fw_new_ne h633 nq645
  have ne_q95_q645 : q95 ≠ q645 := fw_new_ne h634 nq645
  have ne_q125_q645 : q125 ≠ q645 := fw_new_ne h635 nq645
  have ne_q159_q645 : q159 ≠ q645 := fw_new_ne h636 nq645
  have ne_q197_q645 : q197 ≠ q645 := fw_new_ne h637 nq645
  have ne_q239_q645 : q239 ≠ q645 := fw_new_ne h638 nq645
  have ne_q285_q645 : q285 ≠ q645 := fw_new_ne h639 nq645
  have ne_q335_q645 : q335 ≠ q645 := fw_new_ne h640 nq645
  have ne_q389_q645 : q389 ≠ q645 := fw_new_ne h641 nq645
  have ne_q447_q645 : q447 ≠ q645 := fw_new_ne h642 nq645
  have ne_q509_q645 : q509 ≠ q645 := fw_new_ne h643 nq645
  have ne_q575_q645 : q575 ≠ q645 := fw_new_ne h644 nq645
  refine fw_putF (ci := 5) (v := .ref q645) (ty := .array .int) (C := rMo) (T := fMo) (N := 26) hx hb hts iMo yMo_t yMo_ok yMo_nm hown hK hF h647 rfl 22 (by decide) (hts _ t_530) (fun _ h9 => h9) rfl hin rfl (by decide +kernel) rfl rfl (Nat.le_of_ble_eq_true rfl) d_Mo_init_164 (fun H locs hF => ?_)
  obtain ⟨w701, ew701⟩ : ∃ zw : fw, zw = fU w646 b (.inr (5, [.int (iZ 0), .int (iZ 0), .int (iZ 0), .int (iZ 0), .int (iZ (-3)), .int (iZ (-1)), .int (bZ false), .ref q15, .ref q29, .ref q47, .ref q69, .ref q95, .ref q125, .ref q159, .ref q197, .ref q239, .ref q285, .ref q335, .ref q389, .ref q447, .ref q509, .ref q575, .ref q645, .null, .null, .null])) := ⟨_, rfl⟩
  have hF := fW_to ew701 hF
  have h702 : w701 b = some (.inr (5, [.int (iZ 0), .int (iZ 0), .int (iZ 0), .int (iZ 0), .int (iZ (-3)), .int (iZ (-1)), .int (bZ false), .ref q15, .ref q29, .ref q47, .ref q69, .ref q95, .ref q125, .ref q159, .ref q197, .ref q239, .ref q285, .ref q335, .ref q389, .ref q447, .ref q509, .ref q575, .ref q645, .null, .null, .null])) := by rw [ew701]; exact fU_s _ _ _
  have h703 : w701 q15 = some (aZ g.2.1 6 (fun _ => 0)) := by rw [ew701]; exact fU_k (fw_ne h648 h647 ne_lr) h648
  have h704 : w701 q29 = some (aZ g.2.1 6 (fun _ => 0)) := by rw [ew701]; exact fU_k (fw_ne h649 h647 ne_lr) h649
  have h705 : w701 q47 = some (aZ g.2.1 6 (fun _ => 0)) := by rw [ew701]; exact fU_k (fw_ne h650 h647 ne_lr) h650
  have h706 : w701 q69 = some (aZ g.2.1 6 (fun _ => 0)) := by rw [ew701]; exact fU_k (fw_ne h651 h647 ne_lr) h651
  have h707 : w701 q95 = some (aZ g.2.1 6 (fun _ => 0)) := by rw [ew701]; exact fU_k (fw_ne h652 h647 ne_lr) h652
  have h708 : w701 q125 = some (aZ g.2.1 4 (fun _ => 0)) := by rw [ew701]; exact fU_k (fw_ne h653 h647 ne_lr) h653
  have h709 : w701 q159 = some (aZ g.2.1 6 (fun _ => 0)) := by rw [ew701]; exact fU_k (fw_ne h654 h647 ne_lr) h654
  have h710 : w701 q197 = some (aZ g.2.1 18 (fun _ => 0)) := by rw [ew701]; exact fU_k (fw_ne h655 h647 ne_lr) h655
  have h711 : w701 q239 = some (aZ g.2.1 18 (fun _ => 0)) := by rw [ew701]; exact fU_k (fw_ne h656 h647 ne_lr) h656
  have h712 : w701 q285 = some (aZ g.2.1 18 (fun _ => 0)) := by rw [ew701]; exact fU_k (fw_ne h657 h647 ne_lr) h657
  have h713 : w701 q335 = some (aZ g.2.1 6 (fun _ => 0)) := by rw [ew701]; exact fU_k (fw_ne h658 h647 ne_lr) h658
  have h714 : w701 q389 = some (aZ g.2.1 48 (fun _ => 0)) := by rw [ew701]; exact fU_k (fw_ne h659 h647 ne_lr) h659
  have h715 : w701 q447 = some (aZ g.2.1 6 (fun _ => 0)) := by rw [ew701]; exact fU_k (fw_ne h660 h647 ne_lr) h660
  have h716 : w701 q509 = some (aZ g.2.1 6 (fun _ => 0)) := by rw [ew701]; exact fU_k (fw_ne h661 h647 ne_lr) h661
  have h717 : w701 q575 = some (aZ g.2.1 6 (fun _ => 0)) := by rw [ew701]; exact fU_k (fw_ne h662 h647 ne_lr) h662
  have h718 : w701 q645 = some (aZ g.2.1 6 (fun _ => 0)) := by rw [ew701]; exact fU_k (fw_ne h663 h647 ne_lr) h663
  refine lv_aload_n hx hb d_Mo_init_167 rfl (lv_at hl 0 rfl) ?_
  refine lv_bipush (v := iZ 6) hx hb d_Mo_init_168 (by decide) ?_
  refine fw_newa (N := 6) hx hb (hts _ t_123) hK hF hA rfl (by decide) (Nat.le_of_ble_eq_true rfl) (Nat.le_of_ble_eq_true rfl) d_Mo_init_170 (fun q719 H nq719 hF => ?_)
  obtain ⟨w720, ew720⟩ : ∃ zw : fw, zw = fU w701 q719 (aZ g.2.1 6 (fun _ => 0)) := ⟨_, rfl⟩
  have hF := fW_to ew720 hF
  have h721 : w720 b = some (.inr (5, [.int (iZ 0), .int (iZ 0), .int (iZ 0), .int (iZ 0), .int (iZ (-3)), .int (iZ (-1)), .int (bZ false), .ref q15, .ref q29, .ref q47, .ref q69, .ref q95, .ref q125, .ref q159, .ref q197, .ref q239, .ref q285, .ref q335, .ref q389, .ref q447, .ref q509, .ref q575, .ref q645, .null, .null, .null])) := by rw [ew720]; exact fU_k (fw_new_ne h702 nq719) h702
  have h722 : w720 q15 = some (aZ g.2.1 6 (fun _ => 0)) := by rw [ew720]; exact fU_k (fw_new_ne h703 nq719) h703
  have h723 : w720 q29 = some (aZ g.2.1 6 (fun _ => 0)) := by rw [ew720]; exact fU_k (fw_new_ne h704 nq719) h704
  have h724 : w720 q47 = some (aZ g.2.1 6 (fun _ => 0)) := by rw [ew720]; exact fU_k (fw_new_ne h705 nq719) h705
  have h725 : w720 q69 = some (aZ g.2.1 6 (fun _ => 0)) := by rw [ew720]; exact fU_k (fw_new_ne h706 nq719) h706
  have h726 : w720 q95 = some (aZ g.2.1 6 (fun _ => 0)) := by rw [ew720]; exact fU_k (fw_new_ne h707 nq719) h707
  have h727 : w720 q125 = some (aZ g.2.1 4 (fun _ => 0)) := by rw [ew720]; exact fU_k (fw_new_ne h708 nq719) h708
  have h728 : w720 q159 = some (aZ g.2.1 6 (fun _ => 0)) := by rw [ew720]; exact fU_k (fw_new_ne h709 nq719) h709
  have h729 : w720 q197 = some (aZ g.2.1 18 (fun _ => 0)) := by rw [ew720]; exact fU_k (fw_new_ne h710 nq719) h710
  have h730 : w720 q239 = some (aZ g.2.1 18 (fun _ => 0)) := by rw [ew720]; exact fU_k (fw_new_ne h711 nq719) h711
  have h731 : w720 q285 = some (aZ g.2.1 18 (fun _ => 0)) := by rw [ew720]; exact fU_k (fw_new_ne h712 nq719) h712
  have h732 : w720 q335 = some (aZ g.2.1 6 (fun _ => 0)) := by rw [ew720]; exact fU_k (fw_new_ne h713 nq719) h713
  have h733 : w720 q389 = some (aZ g.2.1 48 (fun _ => 0)) := by rw [ew720]; exact fU_k (fw_new_ne h714 nq719) h714
  have h734 : w720 q447 = some (aZ g.2.1 6 (fun _ => 0)) := by rw [ew720]; exact fU_k (fw_new_ne h715 nq719) h715
  have h735 : w720 q509 = some (aZ g.2.1 6 (fun _ => 0)) := by rw [ew720]; exact fU_k (fw_new_ne h716 nq719) h716
  have h736 : w720 q575 = some (aZ g.2.1 6 (fun _ => 0)) := by rw [ew720]; exact fU_k (fw_new_ne h717 nq719) h717
  have h737 : w720 q645 = some (aZ g.2.1 6 (fun _ => 0)) := by rw [ew720]; exact fU_k (fw_new_ne h718 nq719) h718
  have h738 : w720 q719 = some (aZ g.2.1 6 (fun _ => 0)) := by rw [ew720]; exact fU_s _ _ _
  have n739 : w646 q719 = none := fU_none (by rw [← ew701]; exact nq719)
  have n740 : w628 q719 = none := fU_none (by rw [← ew646]; exact n739)
  have n741 : w576 q719 = none := fU_none (by rw [← ew628]; exact n740)
  have n742 : w559 q719 = none := fU_none (by rw [← ew576]; exact n741)
  have n743 : w510 q719 = none := fU_none (by rw [← ew559]; exact n742)
  have n744 : w494 q719 = none := fU_none (by rw [← ew510]; exact n743)
  have n745 : w448 q719 = none := fU_none (by rw [← ew494]; exact n744)
  have n746 : w433 q719 = none := fU_none (by rw [← ew448]; exact n745)
  have n747 : w390 q719 = none := fU_none (by rw [← ew433]; exact n746)
  have n748 : w376 q719 = none := fU_none (by rw [← ew390]; exact n747)
  have n749 : w336 q719 = none := fU_none (by rw [← ew376]; exact n748)
  have n750 : w323 q719 = none := fU_none (by rw [← ew336]; exact n749)
  have n751 : w286 q719 = none := fU_none (by rw [← ew323]; exact n750)
  have n752 : w274 q719 = none := fU_none (by rw [← ew286]; exact n751)
  have n753 : w240 q719 = none := fU_none (by rw [← ew274]; exact n752)
  have n754 : w229 q719 = none := fU_none (by rw [← ew240]; exact n753)
  have n755 : w198 q719 = none := fU_none (by rw [← ew229]; exact n754)
  have n756 : w188 q719 = none := fU_none (by rw [← ew198]; exact n755)
  have n757 : w160 q719 = none := fU_none (by rw [← ew188]; exact n756)
  have n758 : w151 q719 = none := fU_none (by rw [← ew160]; exact n757)
  have n759 : w126 q719 = none := fU_none (by rw [← ew151]; exact n758)
  have n760 : w118 q719 = none := fU_none (by rw [← ew126]; exact n759)
  have n761 : w96 q719 = none := fU_none (by rw [← ew118]; exact n760)
  have n762 : w89 q719 = none := fU_none (by rw [← ew96]; exact n761)
  have n763 : w70 q719 = none := fU_none (by rw [← ew89]; exact n762)
  have n764 : w64 q719 = none := fU_none (by rw [← ew70]; exact n763)
  have n765 : w48 q719 = none := fU_none (by rw [← ew64]; exact n764)
  have n766 : w43 q719 = none := fU_none (by rw [← ew48]; exact n765)
  have n767 : w30 q719 = none := fU_none (by rw [← ew43]; exact n766)
  have n768 : w26 q719 = none := fU_none (by rw [← ew30]; exact n767)
  have n769 : w16 q719 = none := fU_none (by rw [← ew26]; exact n768)
  have n770 : w13 q719 = none := fU_none (by rw [← ew16]; exact n769)
  have n771 : w11 q719 = none := fU_none (by rw [← ew13]; exact n770)
  have n772 : w9 q719 = none := fU_none (by rw [← ew11]; exact n771)
  have n773 : w7 q719 = none := fU_none (by rw [← ew9]; exact n772)
  have n774 : w5 q719 = none := fU_none (by rw [← ew7]; exact n773)
  have n775 : w3 q719 = none := fU_none (by rw [← ew5]; exact n774)
  have n776 : w1 q719 = none := fU_none (by rw [← ew3]; exact n775)
  have n777 : w q719 = none := fU_none (by rw [← ew1]; exact n776)
  have ne_q15_q719 : q15 ≠ q719 := fw_new_ne h703 nq719
  have ne_q29_q719 : q29 ≠ q719 := fw_new_ne h704 nq719
  have ne_q47_q719 : q47 ≠ q719 := fw_new_ne h705 nq719
  have ne_q69_q719 : q69 ≠ q719 := fw_new_ne h706 nq719
  have ne_q95_q719 : q95 ≠ q719 := fw_new_ne h707 nq719
  have ne_q125_q719 : q125 ≠ q719 := fw_new_ne h708 nq719
  have ne_q159_q719 : q159 ≠ q719 := fw_new_ne h709 nq719
  have ne_q197_q719 : q197 ≠ q719 := fw_new_ne h710 nq719
  have ne_q239_q719 : q239 ≠ q719 := fw_new_ne h711 nq719
  have ne_q285_q719 : q285 ≠ q719 := fw_new_ne h712 nq719
  have ne_q335_q719 : q335 ≠ q719 := fw_new_ne h713 nq719
  have ne_q389_q719 : q389 ≠ q719 := fw_new_ne h714 nq719
  have ne_q447_q719 : q447 ≠ q719 := fw_new_ne h715 nq719
  have ne_q509_q719 : q509 ≠ q719 := fw_new_ne h716 nq719
  have ne_q575_q719 : q575 ≠ q719 := fw_new_ne h717 nq719
  have ne_q645_q719 : q645 ≠ q719 := fw_new_ne h718 nq719
  refine fw_putF (ci := 5) (v := .ref q719) (ty := .array .int) (C := rMo) (T := fMo) (N := 26) hx hb hts iMo yMo_t yMo_ok yMo_nm hown hK hF h721 rfl 23 (by decide) (hts _ t_531) (fun _ h9 => h9) rfl hin rfl (by decide +kernel) rfl rfl (Nat.le_of_ble_eq_true rfl) d_Mo_init_172 (fun H locs hF => ?_)
  obtain ⟨w778, ew778⟩ : ∃ zw : fw, zw = fU w720 b (.inr (5, [.int (iZ 0), .int (iZ 0), .int (iZ 0), .int (iZ 0), .int (iZ (-3)), .int (iZ (-1)), .int (bZ false), .ref q15, .ref q29, .ref q47, .ref q69, .ref q95, .ref q125, .ref q159, .ref q197, .ref q239, .ref q285, .ref q335, .ref q389, .ref q447, .ref q509, .ref q575, .ref q645, .ref q719, .null, .null])) := ⟨_, rfl⟩
  have hF := fW_to ew778 hF
  have h779 : w778 b = some (.inr (5, [.int (iZ 0), .int (iZ 0), .int (iZ 0), .int (iZ 0), .int (iZ (-3)), .int (iZ (-1)), .int (bZ false), .ref q15, .ref q29, .ref q47, .ref q69, .ref q95, .ref q125, .ref q159, .ref q197, .ref q239, .ref q285, .ref q335, .ref q389, .ref q447, .ref q509, .ref q575, .ref q645, .ref q719, .null, .null])) := by rw [ew778]; exact fU_s _ _ _
  have h780 : w778 q15 = some (aZ g.2.1 6 (fun _ => 0)) := by rw [ew778]; exact fU_k (fw_ne h722 h721 ne_lr) h722
  have h781 : w778 q29 = some (aZ g.2.1 6 (fun _ => 0)) := by rw [ew778]; exact fU_k (fw_ne h723 h721 ne_lr) h723
  have h782 : w778 q47 = some (aZ g.2.1 6 (fun _ => 0)) := by rw [ew778]; exact fU_k (fw_ne h724 h721 ne_lr) h724
  have h783 : w778 q69 = some (aZ g.2.1 6 (fun _ => 0)) := by rw [ew778]; exact fU_k (fw_ne h725 h721 ne_lr) h725
  have h784 : w778 q95 = some (aZ g.2.1 6 (fun _ => 0)) := by rw [ew778]; exact fU_k (fw_ne h726 h721 ne_lr) h726
  have h785 : w778 q125 = some (aZ g.2.1 4 (fun _ => 0)) := by rw [ew778]; exact fU_k (fw_ne h727 h721 ne_lr) h727
  have h786 : w778 q159 = some (aZ g.2.1 6 (fun _ => 0)) := by rw [ew778]; exact fU_k (fw_ne h728 h721 ne_lr) h728
  have h787 : w778 q197 = some (aZ g.2.1 18 (fun _ => 0)) := by rw [ew778]; exact fU_k (fw_ne h729 h721 ne_lr) h729
  have h788 : w778 q239 = some (aZ g.2.1 18 (fun _ => 0)) := by rw [ew778]; exact fU_k (fw_ne h730 h721 ne_lr) h730
  have h789 : w778 q285 = some (aZ g.2.1 18 (fun _ => 0)) := by rw [ew778]; exact fU_k (fw_ne h731 h721 ne_lr) h731
  have h790 : w778 q335 = some (aZ g.2.1 6 (fun _ => 0)) := by rw [ew778]; exact fU_k (fw_ne h732 h721 ne_lr) h732
  have h791 : w778 q389 = some (aZ g.2.1 48 (fun _ => 0)) := by rw [ew778]; exact fU_k (fw_ne h733 h721 ne_lr) h733
  have h792 : w778 q447 = some (aZ g.2.1 6 (fun _ => 0)) := by rw [ew778]; exact fU_k (fw_ne h734 h721 ne_lr) h734
  have h793 : w778 q509 = some (aZ g.2.1 6 (fun _ => 0)) := by rw [ew778]; exact fU_k (fw_ne h735 h721 ne_lr) h735
  have h794 : w778 q575 = some (aZ g.2.1 6 (fun _ => 0)) := by rw [ew778]; exact fU_k (fw_ne h736 h721 ne_lr) h736
  have h795 : w778 q645 = some (aZ g.2.1 6 (fun _ => 0)) := by rw [ew778]; exact fU_k (fw_ne h737 h721 ne_lr) h737
  have h796 : w778 q719 = some (aZ g.2.1 6 (fun _ => 0)) := by rw [ew778]; exact fU_k (fw_ne h738 h721 ne_lr) h738
  refine lv_aload_n hx hb d_Mo_init_175 rfl (lv_at hl 0 rfl) ?_
  refine lv_bipush (v := iZ 6) hx hb d_Mo_init_176 (by decide) ?_
  refine fw_newa (N := 6) hx hb (hts _ t_123) hK hF hA rfl (by decide) (Nat.le_of_ble_eq_true rfl) (Nat.le_of_ble_eq_true rfl) d_Mo_init_178 (fun q797 H nq797 hF => ?_)
  obtain ⟨w798, ew798⟩ : ∃ zw : fw, zw = fU w778 q797 (aZ g.2.1 6 (fun _ => 0)) := ⟨_, rfl⟩
  have hF := fW_to ew798 hF
  have h799 : w798 b = some (.inr (5, [.int (iZ 0), .int (iZ 0), .int (iZ 0), .int (iZ 0), .int (iZ (-3)), .int (iZ (-1)), .int (bZ false), .ref q15, .ref q29, .ref q47, .ref q69, .ref q95, .ref q125, .ref q159, .ref q197, .ref q239, .ref q285, .ref q335, .ref q389, .ref q447, .ref q509, .ref q575, .ref q645, .ref q719, .null, .null])) := by rw [ew798]; exact fU_k (fw_new_ne h779 nq797) h779
  have h800 : w798 q15 = some (aZ g.2.1 6 (fun _ => 0)) := by rw [ew798]; exact fU_k (fw_new_ne h780 nq797) h780
  have h801 : w798 q29 = some (aZ g.2.1 6 (fun _ => 0)) := by rw [ew798]; exact fU_k (fw_new_ne h781 nq797) h781
  have h802 : w798 q47 = some (aZ g.2.1 6 (fun _ => 0)) := by rw [ew798]; exact fU_k (fw_new_ne h782 nq797) h782
  have h803 : w798 q69 = some (aZ g.2.1 6 (fun _ => 0)) := by rw [ew798]; exact fU_k (fw_new_ne h783 nq797) h783
  have h804 : w798 q95 = some (aZ g.2.1 6 (fun _ => 0)) := by rw [ew798]; exact fU_k (fw_new_ne h784 nq797) h784
  have h805 : w798 q125 = some (aZ g.2.1 4 (fun _ => 0)) := by rw [ew798]; exact fU_k (fw_new_ne h785 nq797) h785
  have h806 : w798 q159 = some (aZ g.2.1 6 (fun _ => 0)) := by rw [ew798]; exact fU_k (fw_new_ne h786 nq797) h786
  have h807 : w798 q197 = some (aZ g.2.1 18 (fun _ => 0)) := by rw [ew798]; exact fU_k (fw_new_ne h787 nq797) h787
  have h808 : w798 q239 = some (aZ g.2.1 18 (fun _ => 0)) := by rw [ew798]; exact fU_k (fw_new_ne h788 nq797) h788
  have h809 : w798 q285 = some (aZ g.2.1 18 (fun _ => 0)) := by rw [ew798]; exact fU_k (fw_new_ne h789 nq797) h789
  have h810 : w798 q335 = some (aZ g.2.1 6 (fun _ => 0)) := by rw [ew798]; exact fU_k (fw_new_ne h790 nq797) h790
  have h811 : w798 q389 = some (aZ g.2.1 48 (fun _ => 0)) := by rw [ew798]; exact fU_k (fw_new_ne h791 nq797) h791
  have h812 : w798 q447 = some (aZ g.2.1 6 (fun _ => 0)) := by rw [ew798]; exact fU_k (fw_new_ne h792 nq797) h792
  have h813 : w798 q509 = some (aZ g.2.1 6 (fun _ => 0)) := by rw [ew798]; exact fU_k (fw_new_ne h793 nq797) h793
  have h814 : w798 q575 = some (aZ g.2.1 6 (fun _ => 0)) := by rw [ew798]; exact fU_k (fw_new_ne h794 nq797) h794
  have h815 : w798 q645 = some (aZ g.2.1 6 (fun _ => 0)) := by rw [ew798]; exact fU_k (fw_new_ne h795 nq797) h795
  have h816 : w798 q719 = some (aZ g.2.1 6 (fun _ => 0)) := by rw [ew798]; exact fU_k (fw_new_ne h796 nq797) h796
  have h817 : w798 q797 = some (aZ g.2.1 6 (fun _ => 0)) := by rw [ew798]; exact fU_s _ _ _
  have n818 : w720 q797 = none := fU_none (by rw [← ew778]; exact nq797)
  have n819 : w701 q797 = none := fU_none (by rw [← ew720]; exact n818)
  have n820 : w646 q797 = none := fU_none (by rw [← ew701]; exact n819)
  have n821 : w628 q797 = none := fU_none (by rw [← ew646]; exact n820)
  have n822 : w576 q797 = none := fU_none (by rw [← ew628]; exact n821)
  have n823 : w559 q797 = none := fU_none (by rw [← ew576]; exact n822)
  have n824 : w510 q797 = none := fU_none (by rw [← ew559]; exact n823)
  have n825 : w494 q797 = none := fU_none (by rw [← ew510]; exact n824)
  have n826 : w448 q797 = none := fU_none (by rw [← ew494]; exact n825)
  have n827 : w433 q797 = none := fU_none (by rw [← ew448]; exact n826)
  have n828 : w390 q797 = none := fU_none (by rw [← ew433]; exact n827)
  have n829 : w376 q797 = none := fU_none (by rw [← ew390]; exact n828)
  have n830 : w336 q797 = none := fU_none (by rw [← ew376]; exact n829)
  have n831 : w323 q797 = none := fU_none (by rw [← ew336]; exact n830)
  have n832 : w286 q797 = none := fU_none (by rw [← ew323]; exact n831)
  have n833 : w274 q797 = none := fU_none (by rw [← ew286]; exact n832)
  have n834 : w240 q797 = none := fU_none (by rw [← ew274]; exact n833)
  have n835 : w229 q797 = none := fU_none (by rw [← ew240]; exact n834)
  have n836 : w198 q797 = none := fU_none (by rw [← ew229]; exact n835)
  have n837 : w188 q797 = none := fU_none (by rw [← ew198]; exact n836)
  have n838 : w160 q797 = none := fU_none (by rw [← ew188]; exact n837)
  have n839 : w151 q797 = none := fU_none (by rw [← ew160]; exact n838)
  have n840 : w126 q797 = none := fU_none (by rw [← ew151]; exact n839)
  have n841 : w118 q797 = none := fU_none (by rw [← ew126]; exact n840)
  have n842 : w96 q797 = none := fU_none (by rw [← ew118]; exact n841)
  have n843 : w89 q797 = none := fU_none (by rw [← ew96]; exact n842)
  have n844 : w70 q797 = none := fU_none (by rw [← ew89]; exact n843)
  have n845 : w64 q797 = none := fU_none (by rw [← ew70]; exact n844)
  have n846 : w48 q797 = none := fU_none (by rw [← ew64]; exact n845)
  have n847 : w43 q797 = none := fU_none (by rw [← ew48]; exact n846)
  have n848 : w30 q797 = none := fU_none (by rw [← ew43]; exact n847)
  have n849 : w26 q797 = none := fU_none (by rw [← ew30]; exact n848)
  have n850 : w16 q797 = none := fU_none (by rw [← ew26]; exact n849)
  have n851 : w13 q797 = none := fU_none (by rw [← ew16]; exact n850)
  have n852 : w11 q797 = none := fU_none (by rw [← ew13]; exact n851)
  have n853 : w9 q797 = none := fU_none (by rw [← ew11]; exact n852)
  have n854 : w7 q797 = none := fU_none (by rw [← ew9]; exact n853)
  have n855 : w5 q797 = none := fU_none (by rw [← ew7]; exact n854)
  have n856 : w3 q797 = none := fU_none (by rw [← ew5]; exact n855)
  have n857 : w1 q797 = none := fU_none (by rw [← ew3]; exact n856)
  have n858 : w q797 = none := fU_none (by rw [← ew1]; exact n857)
  have ne_q15_q797 : q15 ≠ q797 := fw_new_ne h780 nq797
  have ne_q29_q797 : q29 ≠ q797 := fw_new_ne h781 nq797
  have ne_q47_q797 : q47 ≠ q797 := fw_new_ne h782 nq797
  have ne_q69_q797 : q69 ≠ q797 := fw_new_ne h783 nq797
  have ne_q95_q797 : q95 ≠ q797 := fw_new_ne h784 nq797
  have ne_q125_q797 : q125 ≠ q797 := fw_new_ne h785 nq797
  have ne_q159_q797 : q159 ≠ q797 := fw_new_ne h786 nq797
  have ne_q197_q797 : q197 ≠ q797 := fw_new_ne h787 nq797
  have ne_q239_q797 : q239 ≠ q797 := fw_new_ne h788 nq797
  have ne_q285_q797 : q285 ≠ q797 := fw_new_ne h789 nq797
  have ne_q335_q797 : q335 ≠ q797 := fw_new_ne h790 nq797
  have ne_q389_q797 : q389 ≠ q797 := fw_new_ne h791 nq797
  have ne_q447_q797 : q447 ≠ q797 := fw_new_ne h792 nq797
  have ne_q509_q797 : q509 ≠ q797 := fw_new_ne h793 nq797
  have ne_q575_q797 : q575 ≠ q797 := fw_new_ne h794 nq797
  have ne_q645_q797 : q645 ≠ q797 := fw_new_ne h795 nq797
  have ne_q719_q797 : q719 ≠ q797 := fw_new_ne h796 nq797
  refine fw_putF (ci := 5) (v := .ref q797) (ty := .array .int) (C := rMo) (T := fMo) (N := 26) hx hb hts iMo yMo_t yMo_ok yMo_nm hown hK hF h799 rfl 24 (by decide) (hts _ t_532) (fun _ h9 => h9) rfl hin rfl (by decide +kernel) rfl rfl (Nat.le_of_ble_eq_true rfl) d_Mo_init_180 (fun H locs hF => ?_)
  obtain ⟨w859, ew859⟩ : ∃ zw : fw, zw = fU w798 b (.inr (5, [.int (iZ 0), .int (iZ 0), .int (iZ 0), .int (iZ 0), .int (iZ (-3)), .int (iZ (-1)), .int (bZ false), .ref q15, .ref q29, .ref q47, .ref q69, .ref q95, .ref q125, .ref q159, .ref q197, .ref q239, .ref q285, .ref q335, .ref q389, .ref q447, .ref q509, .ref q575, .ref q645, .ref q719, .ref q797, .null])) := ⟨_, rfl⟩
  have hF := fW_to ew859 hF
  have h860 : w859 b = some (.inr (5, [.int (iZ 0), .int (iZ 0), .int (iZ 0), .int (iZ 0), .int (iZ (-3)), .int (iZ (-1)), .int (bZ false), .ref q15, .ref q29, .ref q47, .ref q69, .ref q95, .ref q125, .ref q159, .ref q197, .ref q239, .ref q285, .ref q335, .ref q389, .ref q447, .ref q509, .ref q575, .ref q645, .ref q719, .ref q797, .null])) := by rw [ew859]; exact fU_s _ _ _
  have h861 : w859 q15 = some (aZ g.2.1 6 (fun _ => 0)) := by rw [ew859]; exact fU_k (fw_ne h800 h799 ne_lr) h800
  have h862 : w859 q29 = some (aZ g.2.1 6 (fun _ => 0)) := by rw [ew859]; exact fU_k (fw_ne h801 h799 ne_lr) h801
  have h863 : w859 q47 = some (aZ g.2.1 6 (fun _ => 0)) := by rw [ew859]; exact fU_k (fw_ne h802 h799 ne_lr) h802
  have h864 : w859 q69 = some (aZ g.2.1 6 (fun _ => 0)) := by rw [ew859]; exact fU_k (fw_ne h803 h799 ne_lr) h803
  have h865 : w859 q95 = some (aZ g.2.1 6 (fun _ => 0)) := by rw [ew859]; exact fU_k (fw_ne h804 h799 ne_lr) h804
  have h866 : w859 q125 = some (aZ g.2.1 4 (fun _ => 0)) := by rw [ew859]; exact fU_k (fw_ne h805 h799 ne_lr) h805
  have h867 : w859 q159 = some (aZ g.2.1 6 (fun _ => 0)) := by rw [ew859]; exact fU_k (fw_ne h806 h799 ne_lr) h806
  have h868 : w859 q197 = some (aZ g.2.1 18 (fun _ => 0)) := by rw [ew859]; exact fU_k (fw_ne h807 h799 ne_lr) h807
  have h869 : w859 q239 = some (aZ g.2.1 18 (fun _ => 0)) := by rw [ew859]; exact fU_k (fw_ne h808 h799 ne_lr) h808
  have h870 : w859 q285 = some (aZ g.2.1 18 (fun _ => 0)) := by rw [ew859]; exact fU_k (fw_ne h809 h799 ne_lr) h809
  have h871 : w859 q335 = some (aZ g.2.1 6 (fun _ => 0)) := by rw [ew859]; exact fU_k (fw_ne h810 h799 ne_lr) h810
  have h872 : w859 q389 = some (aZ g.2.1 48 (fun _ => 0)) := by rw [ew859]; exact fU_k (fw_ne h811 h799 ne_lr) h811
  have h873 : w859 q447 = some (aZ g.2.1 6 (fun _ => 0)) := by rw [ew859]; exact fU_k (fw_ne h812 h799 ne_lr) h812
  have h874 : w859 q509 = some (aZ g.2.1 6 (fun _ => 0)) := by rw [ew859]; exact fU_k (fw_ne h813 h799 ne_lr) h813
  have h875 : w859 q575 = some (aZ g.2.1 6 (fun _ => 0)) := by rw [ew859]; exact fU_k (fw_ne h814 h799 ne_lr) h814
  have h876 : w859 q645 = some (aZ g.2.1 6 (fun _ => 0)) := by rw [ew859]; exact fU_k (fw_ne h815 h799 ne_lr) h815
  have h877 : w859 q719 = some (aZ g.2.1 6 (fun _ => 0)) := by rw [ew859]; exact fU_k (fw_ne h816 h799 ne_lr) h816
  have h878 : w859 q797 = some (aZ g.2.1 6 (fun _ => 0)) := by rw [ew859]; exact fU_k (fw_ne h817 h799 ne_lr) h817
  refine lv_aload_n hx hb d_Mo_init_183 rfl (lv_at hl 0 rfl) ?_
  refine lv_bipush (v := iZ 64) hx hb d_Mo_init_184 (by decide) ?_
  refine fw_newa (N := 64) hx hb (hts _ t_123) hK hF hA rfl (by decide) (Nat.le_of_ble_eq_true rfl) (Nat.le_of_ble_eq_true rfl) d_Mo_init_186 (fun q879 H nq879 hF => ?_)
  obtain ⟨w880, ew880⟩ : ∃ zw : fw, zw = fU w859 q879 (aZ g.2.1 64 (fun _ => 0)) := ⟨_, rfl⟩
  have hF := fW_to ew880 hF
  have h881 : w880 b = some (.inr (5, [.int (iZ 0), .int (iZ 0), .int (iZ 0), .int (iZ 0), .int (iZ (-3)), .int (iZ (-1)), .int (bZ false), .ref q15, .ref q29, .ref q47, .ref q69, .ref q95, .ref q125, .ref q159, .ref q197, .ref q239, .ref q285, .ref q335, .ref q389, .ref q447, .ref q509, .ref q575, .ref q645, .ref q719, .ref q797, .null])) := by rw [ew880]; exact fU_k (fw_new_ne h860 nq879) h860
  have h882 : w880 q15 = some (aZ g.2.1 6 (fun _ => 0)) := by rw [ew880]; exact fU_k (fw_new_ne h861 nq879) h861
  have h883 : w880 q29 = some (aZ g.2.1 6 (fun _ => 0)) := by rw [ew880]; exact fU_k (fw_new_ne h862 nq879) h862
  have h884 : w880 q47 = some (aZ g.2.1 6 (fun _ => 0)) := by rw [ew880]; exact fU_k (fw_new_ne h863 nq879) h863
  have h885 : w880 q69 = some (aZ g.2.1 6 (fun _ => 0)) := by rw [ew880]; exact fU_k (fw_new_ne h864 nq879) h864
  have h886 : w880 q95 = some (aZ g.2.1 6 (fun _ => 0)) := by rw [ew880]; exact fU_k (fw_new_ne h865 nq879) h865
  have h887 : w880 q125 = some (aZ g.2.1 4 (fun _ => 0)) := by rw [ew880]; exact fU_k (fw_new_ne h866 nq879) h866
  have h888 : w880 q159 = some (aZ g.2.1 6 (fun _ => 0)) := by rw [ew880]; exact fU_k (fw_new_ne h867 nq879) h867
  have h889 : w880 q197 = some (aZ g.2.1 18 (fun _ => 0)) := by rw [ew880]; exact fU_k (fw_new_ne h868 nq879) h868
  have h890 : w880 q239 = some (aZ g.2.1 18 (fun _ => 0)) := by rw [ew880]; exact fU_k (fw_new_ne h869 nq879) h869
  have h891 : w880 q285 = some (aZ g.2.1 18 (fun _ => 0)) := by rw [ew880]; exact fU_k (fw_new_ne h870 nq879) h870
  have h892 : w880 q335 = some (aZ g.2.1 6 (fun _ => 0)) := by rw [ew880]; exact fU_k (fw_new_ne h871 nq879) h871
  have h893 : w880 q389 = some (aZ g.2.1 48 (fun _ => 0)) := by rw [ew880]; exact fU_k (fw_new_ne h872 nq879) h872
  have h894 : w880 q447 = some (aZ g.2.1 6 (fun _ => 0)) := by rw [ew880]; exact fU_k (fw_new_ne h873 nq879) h873
  have h895 : w880 q509 = some (aZ g.2.1 6 (fun _ => 0)) := by rw [ew880]; exact fU_k (fw_new_ne h874 nq879) h874
  have h896 : w880 q575 = some (aZ g.2.1 6 (fun _ => 0)) := by rw [ew880]; exact fU_k (fw_new_ne h875 nq879) h875
  have h897 : w880 q645 = some (aZ g.2.1 6 (fun _ => 0)) := by rw [ew880]; exact fU_k (fw_new_ne h876 nq879) h876
  have h898 : w880 q719 = some (aZ g.2.1 6 (fun _ => 0)) := by rw [ew880]; exact fU_k (fw_new_ne h877 nq879) h877
  have h899 : w880 q797 = some (aZ g.2.1 6 (fun _ => 0)) := by rw [ew880]; exact fU_k (fw_new_ne h878 nq879) h878
  have h900 : w880 q879 = some (aZ g.2.1 64 (fun _ => 0)) := by rw [ew880]; exact fU_s _ _ _
  have n901 : w798 q879 = none := fU_none (by rw [← ew859]; exact nq879)
  have n902 : w778 q879 = none := fU_none (by rw [← ew798]; exact n901)
  have n903 : w720 q879 = none := fU_none (by rw [← ew778]; exact n902)
  have n904 : w701 q879 = none := fU_none (by rw [← ew720]; exact n903)
  have n905 : w646 q879 = none := fU_none (by rw [← ew701]; exact n904)
  have n906 : w628 q879 = none := fU_none (by rw [← ew646]; exact n905)
  have n907 : w576 q879 = none := fU_none (by rw [← ew628]; exact n906)
  have n908 : w559 q879 = none := fU_none (by rw [← ew576]; exact n907)
  have n909 : w510 q879 = none := fU_none (by rw [← ew559]; exact n908)
  have n910 : w494 q879 = none := fU_none (by rw [← ew510]; exact n909)
  have n911 : w448 q879 = none := fU_none (by rw [← ew494]; exact n910)
  have n912 : w433 q879 = none := fU_none (by rw [← ew448]; exact n911)
  have n913 : w390 q879 = none := fU_none (by rw [← ew433]; exact n912)
  have n914 : w376 q879 = none := fU_none (by rw [← ew390]; exact n913)
  have n915 : w336 q879 = none := fU_none (by rw [← ew376]; exact n914)
  have n916 : w323 q879 = none := fU_none (by rw [← ew336]; exact n915)
  have n917 : w286 q879 = none := fU_none (by rw [← ew323]; exact n916)
  have n918 : w274 q879 = none := fU_none (by rw [← ew286]; exact n917)
  have n919 : w240 q879 = none := fU_none (by rw [← ew274]; exact n918)
  have n920 : w229 q879 = none := fU_none (by rw [← ew240]; exact n919)
  have n921 : w198 q879 = none := fU_none (by rw [← ew229]; exact n920)
  have n922 : w188 q879 = none := fU_none (by rw [← ew198]; exact n921)
  have n923 : w160 q879 = none := fU_none (by rw [← ew188]; exact n922)
  have n924 : w151 q879 = none := fU_none (by rw [← ew160]; exact n923)
  have n925 : w126 q879 = none := fU_none (by rw [← ew151]; exact n924)
  have n926 : w118 q879 = none := fU_none (by rw [← ew126]; exact n925)
  have n927 : w96 q879 = none := fU_none (by rw [← ew118]; exact n926)
  have n928 : w89 q879 = none := fU_none (by rw [← ew96]; exact n927)
  have n929 : w70 q879 = none := fU_none (by rw [← ew89]; exact n928)
  have n930 : w64 q879 = none := fU_none (by rw [← ew70]; exact n929)
  have n931 : w48 q879 = none := fU_none (by rw [← ew64]; exact n930)
  have n932 : w43 q879 = none := fU_none (by rw [← ew48]; exact n931)
  have n933 : w30 q879 = none := fU_none (by rw [← ew43]; exact n932)
  have n934 : w26 q879 = none := fU_none (by rw [← ew30]; exact n933)
  have n935 : w16 q879 = none := fU_none (by rw [← ew26]; exact n934)
  have n936 : w13 q879 = none := fU_none (by rw [← ew16]; exact n935)
  have n937 : w11 q879 = none := fU_none (by rw [← ew13]; exact n936)
  have n938 : w9 q879 = none := fU_none (by rw [← ew11]; exact n937)
  have n939 : w7 q879 = none := fU_none (by rw [← ew9]; exact n938)
  have n940 : w5 q879 = none := fU_none (by rw [← ew7]; exact n939)
  have n941 : w3 q879 = none := fU_none (by rw [← ew5]; exact n940)
  have n942 : w1 q879 = none := fU_none (by rw [← ew3]; exact n941)
  have n943 : w q879 = none := fU_none (by rw [← ew1]; exact n942)
  have ne_q15_q879 : q15 ≠ q879 := fw_new_ne h861 nq879
  have ne_q29_q879 : q29 ≠ q879 := fw_new_ne h862 nq879
  have ne_q47_q879 : q47 ≠ q879 := fw_new_ne h863 nq879
  have ne_q69_q879 : q69 ≠ q879 := fw_new_ne h864 nq879
  have ne_q95_q879 : q95 ≠ q879 := fw_new_ne h865 nq879
  have ne_q125_q879 : q125 ≠ q879 := fw_new_ne h866 nq879
  have ne_q159_q879 : q159 ≠ q879 := fw_new_ne h867 nq879
  have ne_q197_q879 : q197 ≠ q879 := fw_new_ne h868 nq879
  have ne_q239_q879 : q239 ≠ q879 := fw_new_ne h869 nq879
  have ne_q285_q879 : q285 ≠ q879 := fw_new_ne h870 nq879
  have ne_q335_q879 : q335 ≠ q879 := fw_new_ne h871 nq879
  have ne_q389_q879 : q389 ≠ q879 := fw_new_ne h872 nq879
  have ne_q447_q879 : q447 ≠ q879 := fw_new_ne h873 nq879
  have ne_q509_q879 : q509 ≠ q879 := fw_new_ne h874 nq879
  have ne_q575_q879 : q575 ≠ q879 := fw_new_ne h875 nq879
  have ne_q645_q879 : q645 ≠ q879 := fw_new_ne h876 nq879
  have ne_q719_q879 : q719 ≠ q879 := fw_new_ne h877 nq879
  have ne_q797_q879 : q797 ≠ q879 := fw_new_ne h878 nq879
  refine fw_putF (ci := 5) (v := .ref q879) (ty := .array .int) (C := rMo) (T := fMo) (N := 26) hx hb hts iMo yMo_t yMo_ok yMo_nm hown hK hF h881 rfl 25 (by decide) (hts _ t_533) (fun _ h9 => h9) rfl hin rfl (by decide +kernel) rfl rfl (Nat.le_of_ble_eq_true rfl) d_Mo_init_188 (fun H locs hF => ?_)
  obtain ⟨w944, ew944⟩ : ∃ zw : fw, zw = fU w880 b (.inr (5, [.int (iZ 0), .int (iZ 0), .int (iZ 0), .int (iZ 0), .int (iZ (-3)), .int (iZ (-1)), .int (bZ false), .ref q15, .ref q29, .ref q47, .ref q69, .ref q95, .ref q125, .ref q159, .ref q197, .ref q239, .ref q285, .ref q335, .ref q389, .ref q447, .ref q509, .ref q575, .ref q645, .ref q719, .ref q797, .ref q879])) := ⟨_, rfl⟩
  have hF := fW_to ew944 hF
  have h945 : w944 b = some (.inr (5, [.int (iZ 0), .int (iZ 0), .int (iZ 0), .int (iZ 0), .int (iZ (-3)), .int (iZ (-1)), .int (bZ false), .ref q15, .ref q29, .ref q47, .ref q69, .ref q95, .ref q125, .ref q159, .ref q197, .ref q239, .ref q285, .ref q335, .ref q389, .ref q447, .ref q509, .ref q575, .ref q645, .ref q719, .ref q797, .ref q879])) := by rw [ew944]; exact fU_s _ _ _
  have h946 : w944 q15 = some (aZ g.2.1 6 (fun _ => 0)) := by rw [ew944]; exact fU_k (fw_ne h882 h881 ne_lr) h882
  have h947 : w944 q29 = some (aZ g.2.1 6 (fun _ => 0)) := by rw [ew944]; exact fU_k (fw_ne h883 h881 ne_lr) h883
  have h948 : w944 q47 = some (aZ g.2.1 6 (fun _ => 0)) := by rw [ew944]; exact fU_k (fw_ne h884 h881 ne_lr) h884
  have h949 : w944 q69 = some (aZ g.2.1 6 (fun _ => 0)) := by rw [ew944]; exact fU_k (fw_ne h885 h881 ne_lr) h885
  have h950 : w944 q95 = some (aZ g.2.1 6 (fun _ => 0)) := by rw [ew944]; exact fU_k (fw_ne h886 h881 ne_lr) h886
  have h951 : w944 q125 = some (aZ g.2.1 4 (fun _ => 0)) := by rw [ew944]; exact fU_k (fw_ne h887 h881 ne_lr) h887
  have h952 : w944 q159 = some (aZ g.2.1 6 (fun _ => 0)) := by rw [ew944]; exact fU_k (fw_ne h888 h881 ne_lr) h888
  have h953 : w944 q197 = some (aZ g.2.1 18 (fun _ => 0)) := by rw [ew944]; exact fU_k (fw_ne h889 h881 ne_lr) h889
  have h954 : w944 q239 = some (aZ g.2.1 18 (fun _ => 0)) := by rw [ew944]; exact fU_k (fw_ne h890 h881 ne_lr) h890
  have h955 : w944 q285 = some (aZ g.2.1 18 (fun _ => 0)) := by rw [ew944]; exact fU_k (fw_ne h891 h881 ne_lr) h891
  have h956 : w944 q335 = some (aZ g.2.1 6 (fun _ => 0)) := by rw [ew944]; exact fU_k (fw_ne h892 h881 ne_lr) h892
  have h957 : w944 q389 = some (aZ g.2.1 48 (fun _ => 0)) := by rw [ew944]; exact fU_k (fw_ne h893 h881 ne_lr) h893
  have h958 : w944 q447 = some (aZ g.2.1 6 (fun _ => 0)) := by rw [ew944]; exact fU_k (fw_ne h894 h881 ne_lr) h894
  have h959 : w944 q509 = some (aZ g.2.1 6 (fun _ => 0)) := by rw [ew944]; exact fU_k (fw_ne h895 h881 ne_lr) h895
  have h960 : w944 q575 = some (aZ g.2.1 6 (fun _ => 0)) := by rw [ew944]; exact fU_k (fw_ne h896 h881 ne_lr) h896
  have h961 : w944 q645 = some (aZ g.2.1 6 (fun _ => 0)) := by rw [ew944]; exact fU_k (fw_ne h897 h881 ne_lr) h897
  have h962 : w944 q719 = some (aZ g.2.1 6 (fun _ => 0)) := by rw [ew944]; exact fU_k (fw_ne h898 h881 ne_lr) h898
  have h963 : w944 q797 = some (aZ g.2.1 6 (fun _ => 0)) := by rw [ew944]; exact fU_k (fw_ne h899 h881 ne_lr) h899
  have h964 : w944 q879 = some (aZ g.2.1 64 (fun _ => 0)) := by rw [ew944]; exact fU_k (fw_ne h900 h881 ne_lr) h900
  refine lv_iconst (v := iZ 0) hx hb d_Mo_init_191 rfl ?_
  refine lv_istore_n (lv' := [(1, .int (iZ 0)), (0, .ref b)]) hx hb d_Mo_init_192 rfl hl (by decide) rfl (fun ls hl => ?_)
  refine lv_iload_n hx hb d_Mo_init_193 rfl (lv_at hl 0 rfl) ?_
  refine lv_iconst (v := iZ 4) hx hb d_Mo_init_194 rfl ?_
  refine zz_icmp_ge (tgt := 212) hx hb d_Mo_init_195 (by decide) ⟨by omega, by omega⟩ ⟨by omega, by omega⟩ (fun c195 => ?_) (fun c195 => ?_)
  · exfalso; omega
  · refine lv_aload_n hx hb d_Mo_init_198 rfl (lv_at hl 1 rfl) ?_
    refine fw_get (ci := 5) (v := .ref q125) (C := rMo) (T := fMo) (N := 26) hx hb hts iMo hown hK hF.1 h945 rfl 12 (by decide) (hts _ t_520) (fun _ h9 => h9) rfl d_Mo_init_199 ?_
    refine lv_iload_n hx hb d_Mo_init_202 rfl (lv_at hl 0 rfl) ?_
    refine lv_bipush (v := iZ 10) hx hb d_Mo_init_203 (by decide) ?_
    refine fw_iast (x := 10) hx hb hK hF h951 (by decide) 0 rfl (by decide) d_Mo_init_205 (fun H locs hF => ?_)
    obtain ⟨w965, ew965⟩ : ∃ zw : fw, zw = fU w944 q125 (aZ g.2.1 4 (va_up (fun _ => 0) 0 10)) := ⟨_, rfl⟩
    have hF := fW_to ew965 hF
    have h966 : w965 b = some (.inr (5, [.int (iZ 0), .int (iZ 0), .int (iZ 0), .int (iZ 0), .int (iZ (-3)), .int (iZ (-1)), .int (bZ false), .ref q15, .ref q29, .ref q47, .ref q69, .ref q95, .ref q125, .ref q159, .ref q197, .ref q239, .ref q285, .ref q335, .ref q389, .ref q447, .ref q509, .ref q575, .ref q645, .ref q719, .ref q797, .ref q879])) := by rw [ew965]; exact fU_k (fw_ne h945 h951 ne_rl) h945
    have h967 : w965 q15 = some (aZ g.2.1 6 (fun _ => 0)) := by rw [ew965]; exact fU_k (fw_ne h946 h951 (ne_ll (by decide))) h946
    have h968 : w965 q29 = some (aZ g.2.1 6 (fun _ => 0)) := by rw [ew965]; exact fU_k (fw_ne h947 h951 (ne_ll (by decide))) h947
    have h969 : w965 q47 = some (aZ g.2.1 6 (fun _ => 0)) := by rw [ew965]; exact fU_k (fw_ne h948 h951 (ne_ll (by decide))) h948
    have h970 : w965 q69 = some (aZ g.2.1 6 (fun _ => 0)) := by rw [ew965]; exact fU_k (fw_ne h949 h951 (ne_ll (by decide))) h949
    have h971 : w965 q95 = some (aZ g.2.1 6 (fun _ => 0)) := by rw [ew965]; exact fU_k (fw_ne h950 h951 (ne_ll (by decide))) h950
    have h972 : w965 q125 = some (aZ g.2.1 4 (va_up (fun _ => 0) 0 10)) := by rw [ew965]; exact fU_s _ _ _
    have h973 : w965 q159 = some (aZ g.2.1 6 (fun _ => 0)) := by rw [ew965]; exact fU_k (fw_ne h952 h951 (ne_ll (by decide))) h952
    have h974 : w965 q197 = some (aZ g.2.1 18 (fun _ => 0)) := by rw [ew965]; exact fU_k (fw_ne h953 h951 (ne_ll (by decide))) h953
    have h975 : w965 q239 = some (aZ g.2.1 18 (fun _ => 0)) := by rw [ew965]; exact fU_k (fw_ne h954 h951 (ne_ll (by decide))) h954
    have h976 : w965 q285 = some (aZ g.2.1 18 (fun _ => 0)) := by rw [ew965]; exact fU_k (fw_ne h955 h951 (ne_ll (by decide))) h955
    have h977 : w965 q335 = some (aZ g.2.1 6 (fun _ => 0)) := by rw [ew965]; exact fU_k (fw_ne h956 h951 (ne_ll (by decide))) h956
    have h978 : w965 q389 = some (aZ g.2.1 48 (fun _ => 0)) := by rw [ew965]; exact fU_k (fw_ne h957 h951 (ne_ll (by decide))) h957
    have h979 : w965 q447 = some (aZ g.2.1 6 (fun _ => 0)) := by rw [ew965]; exact fU_k (fw_ne h958 h951 (ne_ll (by decide))) h958
    have h980 : w965 q509 = some (aZ g.2.1 6 (fun _ => 0)) := by rw [ew965]; exact fU_k (fw_ne h959 h951 (ne_ll (by decide))) h959
    have h981 : w965 q575 = some (aZ g.2.1 6 (fun _ => 0)) := by rw [ew965]; exact fU_k (fw_ne h960 h951 (ne_ll (by decide))) h960
    have h982 : w965 q645 = some (aZ g.2.1 6 (fun _ => 0)) := by rw [ew965]; exact fU_k (fw_ne h961 h951 (ne_ll (by decide))) h961
    have h983 : w965 q719 = some (aZ g.2.1 6 (fun _ => 0)) := by rw [ew965]; exact fU_k (fw_ne h962 h951 (ne_ll (by decide))) h962
    have h984 : w965 q797 = some (aZ g.2.1 6 (fun _ => 0)) := by rw [ew965]; exact fU_k (fw_ne h963 h951 (ne_ll (by decide))) h963
    have h985 : w965 q879 = some (aZ g.2.1 64 (fun _ => 0)) := by rw [ew965]; exact fU_k (fw_ne h964 h951 (ne_ll (by decide))) h964
    refine lv_iinc (v := iZ (0 + 1)) (lv' := [(1, .int (iZ (0 + 1))), (0, .ref b)]) hx hb d_Mo_init_206 hl (k := 0) rfl (iZ_add _ _) (by decide) rfl (fun ls hl => ?_)
    refine lv_goto (tgt := 193) hx hb d_Mo_init_209 (by decide) ?_
    refine lv_iload_n hx hb d_Mo_init_193 rfl (lv_at hl 0 rfl) ?_
    refine lv_iconst (v := iZ 4) hx hb d_Mo_init_194 rfl ?_
    refine zz_icmp_ge (tgt := 212) hx hb d_Mo_init_195 (by decide) ⟨by omega, by omega⟩ ⟨by omega, by omega⟩ (fun c195 => ?_) (fun c195 => ?_)
    · exfalso; omega
    · refine lv_aload_n hx hb d_Mo_init_198 rfl (lv_at hl 1 rfl) ?_
      refine fw_get (ci := 5) (v := .ref q125) (C := rMo) (T := fMo) (N := 26) hx hb hts iMo hown hK hF.1 h966 rfl 12 (by decide) (hts _ t_520) (fun _ h9 => h9) rfl d_Mo_init_199 ?_
      refine lv_iload_n hx hb d_Mo_init_202 rfl (lv_at hl 0 rfl) ?_
      refine lv_bipush (v := iZ 10) hx hb d_Mo_init_203 (by decide) ?_
      refine fw_iast (x := 10) hx hb hK hF h972 (by decide) ((Int.toNat (0 + 1))) (by omega) (by omega) d_Mo_init_205 (fun H locs hF => ?_)
      obtain ⟨w986, ew986⟩ : ∃ zw : fw, zw = fU w965 q125 (aZ g.2.1 4 (va_up (va_up (fun _ => 0) 0 10) ((Int.toNat (0 + 1))) 10)) := ⟨_, rfl⟩
      have hF := fW_to ew986 hF
      have h987 : w986 b = some (.inr (5, [.int (iZ 0), .int (iZ 0), .int (iZ 0), .int (iZ 0), .int (iZ (-3)), .int (iZ (-1)), .int (bZ false), .ref q15, .ref q29, .ref q47, .ref q69, .ref q95, .ref q125, .ref q159, .ref q197, .ref q239, .ref q285, .ref q335, .ref q389, .ref q447, .ref q509, .ref q575, .ref q645, .ref q719, .ref q797, .ref q879])) := by rw [ew986]; exact fU_k (fw_ne h966 h972 ne_rl) h966
      have h988 : w986 q15 = some (aZ g.2.1 6 (fun _ => 0)) := by rw [ew986]; exact fU_k (fw_ne h967 h972 (ne_ll (by decide))) h967
      have h989 : w986 q29 = some (aZ g.2.1 6 (fun _ => 0)) := by rw [ew986]; exact fU_k (fw_ne h968 h972 (ne_ll (by decide))) h968
      have h990 : w986 q47 = some (aZ g.2.1 6 (fun _ => 0)) := by rw [ew986]; exact fU_k (fw_ne h969 h972 (ne_ll (by decide))) h969
      have h991 : w986 q69 = some (aZ g.2.1 6 (fun _ => 0)) := by rw [ew986]; exact fU_k (fw_ne h970 h972 (ne_ll (by decide))) h970
      have h992 : w986 q95 = some (aZ g.2.1 6 (fun _ => 0)) := by rw [ew986]; exact fU_k (fw_ne h971 h972 (ne_ll (by decide))) h971
      have h993 : w986 q125 = some (aZ g.2.1 4 (va_up (va_up (fun _ => 0) 0 10) ((Int.toNat (0 + 1))) 10)) := by rw [ew986]; exact fU_s _ _ _
      have h994 : w986 q159 = some (aZ g.2.1 6 (fun _ => 0)) := by rw [ew986]; exact fU_k (fw_ne h973 h972 (ne_ll (by decide))) h973
      have h995 : w986 q197 = some (aZ g.2.1 18 (fun _ => 0)) := by rw [ew986]; exact fU_k (fw_ne h974 h972 (ne_ll (by decide))) h974
      have h996 : w986 q239 = some (aZ g.2.1 18 (fun _ => 0)) := by rw [ew986]; exact fU_k (fw_ne h975 h972 (ne_ll (by decide))) h975
      have h997 : w986 q285 = some (aZ g.2.1 18 (fun _ => 0)) := by rw [ew986]; exact fU_k (fw_ne h976 h972 (ne_ll (by decide))) h976
      have h998 : w986 q335 = some (aZ g.2.1 6 (fun _ => 0)) := by rw [ew986]; exact fU_k (fw_ne h977 h972 (ne_ll (by decide))) h977
      have h999 : w986 q389 = some (aZ g.2.1 48 (fun _ => 0)) := by rw [ew986]; exact fU_k (fw_ne h978 h972 (ne_ll (by decide))) h978
      have h1000 : w986 q447 = some (aZ g.2.1 6 (fun _ => 0)) := by rw [ew986]; exact fU_k (fw_ne h979 h972 (ne_ll (by decide))) h979
      have h1001 : w986 q509 = some (aZ g.2.1 6 (fun _ => 0)) := by rw [ew986]; exact fU_k (fw_ne h980 h972 (ne_ll (by decide))) h980
      have h1002 : w986 q575 = some (aZ g.2.1 6 (fun _ => 0)) := by rw [ew986]; exact fU_k (fw_ne h981 h972 (ne_ll (by decide))) h981
      have h1003 : w986 q645 = some (aZ g.2.1 6 (fun _ => 0)) := by rw [ew986]; exact fU_k (fw_ne h982 h972 (ne_ll (by decide))) h982
      have h1004 : w986 q719 = some (aZ g.2.1 6 (fun _ => 0)) := by rw [ew986]; exact fU_k (fw_ne h983 h972 (ne_ll (by decide))) h983
      have h1005 : w986 q797 = some (aZ g.2.1 6 (fun _ => 0)) := by rw [ew986]; exact fU_k (fw_ne h984 h972 (ne_ll (by decide))) h984
      have h1006 : w986 q879 = some (aZ g.2.1 64 (fun _ => 0)) := by rw [ew986]; exact fU_k (fw_ne h985 h972 (ne_ll (by decide))) h985
      refine lv_iinc (v := iZ ((0 + 1) + 1)) (lv' := [(1, .int (iZ ((0 + 1) + 1))), (0, .ref b)]) hx hb d_Mo_init_206 hl (k := 0) rfl (iZ_add _ _) (by decide) rfl (fun ls hl => ?_)
      refine lv_goto (tgt := 193) hx hb d_Mo_init_209 (by decide) ?_
      refine lv_iload_n hx hb d_Mo_init_193 rfl (lv_at hl 0 rfl) ?_
      refine lv_iconst (v := iZ 4) hx hb d_Mo_init_194 rfl ?_
      refine zz_icmp_ge (tgt := 212) hx hb d_Mo_init_195 (by decide) ⟨by omega, by omega⟩ ⟨by omega, by omega⟩ (fun c195 => ?_) (fun c195 => ?_)
      · exfalso; omega
      · refine lv_aload_n hx hb d_Mo_init_198 rfl (lv_at hl 1 rfl) ?_
        refine fw_get (ci := 5) (v := .ref q125) (C := rMo) (T := fMo) (N := 26) hx hb hts iMo hown hK hF.1 h987 rfl 12 (by decide) (hts _ t_520) (fun _ h9 => h9) rfl d_Mo_init_199 ?_
        refine lv_iload_n hx hb d_Mo_init_202 rfl (lv_at hl 0 rfl) ?_
        refine lv_bipush (v := iZ 10) hx hb d_Mo_init_203 (by decide) ?_
        refine fw_iast (x := 10) hx hb hK hF h993 (by decide) ((Int.toNat ((0 + 1) + 1))) (by omega) (by omega) d_Mo_init_205 (fun H locs hF => ?_)
        obtain ⟨w1007, ew1007⟩ : ∃ zw : fw, zw = fU w986 q125 (aZ g.2.1 4 (va_up (va_up (va_up (fun _ => 0) 0 10) ((Int.toNat (0 + 1))) 10) ((Int.toNat ((0 + 1) + 1))) 10)) := ⟨_, rfl⟩
        have hF := fW_to ew1007 hF
        have h1008 : w1007 b = some (.inr (5, [.int (iZ 0), .int (iZ 0), .int (iZ 0), .int (iZ 0), .int (iZ (-3)), .int (iZ (-1)), .int (bZ false), .ref q15, .ref q29, .ref q47, .ref q69, .ref q95, .ref q125, .ref q159, .ref q197, .ref q239, .ref q285, .ref q335, .ref q389, .ref q447, .ref q509, .ref q575, .ref q645, .ref q719, .ref q797, .ref q879])) := by rw [ew1007]; exact fU_k (fw_ne h987 h993 ne_rl) h987
        have h1009 : w1007 q15 = some (aZ g.2.1 6 (fun _ => 0)) := by rw [ew1007]; exact fU_k (fw_ne h988 h993 (ne_ll (by decide))) h988
        have h1010 : w1007 q29 = some (aZ g.2.1 6 (fun _ => 0)) := by rw [ew1007]; exact fU_k (fw_ne h989 h993 (ne_ll (by decide))) h989
        have h1011 : w1007 q47 = some (aZ g.2.1 6 (fun _ => 0)) := by rw [ew1007]; exact fU_k (fw_ne h990 h993 (ne_ll (by decide))) h990
        have h1012 : w1007 q69 = some (aZ g.2.1 6 (fun _ => 0)) := by rw [ew1007]; exact fU_k (fw_ne h991 h993 (ne_ll (by decide))) h991
        have h1013 : w1007 q95 = some (aZ g.2.1 6 (fun _ => 0)) := by rw [ew1007]; exact fU_k (fw_ne h992 h993 (ne_ll (by decide))) h992
        have h1014 : w1007 q125 = some (aZ g.2.1 4 (va_up (va_up (va_up (fun _ => 0) 0 10) ((Int.toNat (0 + 1))) 10) ((Int.toNat ((0 + 1) + 1))) 10)) := by rw [ew1007]; exact fU_s _ _ _
        have h1015 : w1007 q159 = some (aZ g.2.1 6 (fun _ => 0)) := by rw [ew1007]; exact fU_k (fw_ne h994 h993 (ne_ll (by decide))) h994
        have h1016 : w1007 q197 = some (aZ g.2.1 18 (fun _ => 0)) := by rw [ew1007]; exact fU_k (fw_ne h995 h993 (ne_ll (by decide))) h995
        have h1017 : w1007 q239 = some (aZ g.2.1 18 (fun _ => 0)) := by rw [ew1007]; exact fU_k (fw_ne h996 h993 (ne_ll (by decide))) h996
        have h1018 : w1007 q285 = some (aZ g.2.1 18 (fun _ => 0)) := by rw [ew1007]; exact fU_k (fw_ne h997 h993 (ne_ll (by decide))) h997
        have h1019 : w1007 q335 = some (aZ g.2.1 6 (fun _ => 0)) := by rw [ew1007]; exact fU_k (fw_ne h998 h993 (ne_ll (by decide))) h998
        have h1020 : w1007 q389 = some (aZ g.2.1 48 (fun _ => 0)) := by rw [ew1007]; exact fU_k (fw_ne h999 h993 (ne_ll (by decide))) h999
        have h1021 : w1007 q447 = some (aZ g.2.1 6 (fun _ => 0)) := by rw [ew1007]; exact fU_k (fw_ne h1000 h993 (ne_ll (by decide))) h1000
        have h1022 : w1007 q509 = some (aZ g.2.1 6 (fun _ => 0)) := by rw [ew1007]; exact fU_k (fw_ne h1001 h993 (ne_ll (by decide))) h1001
        have h1023 : w1007 q575 = some (aZ g.2.1 6 (fun _ => 0)) := by rw [ew1007]; exact fU_k (fw_ne h1002 h993 (ne_ll (by decide))) h1002
        have h1024 : w1007 q645 = some (aZ g.2.1 6 (fun _ => 0)) := by rw [ew1007]; exact fU_k (fw_ne h1003 h993 (ne_ll (by decide))) h1003
        have h1025 : w1007 q719 = some (aZ g.2.1 6 (fun _ => 0)) := by rw [ew1007]; exact fU_k (fw_ne h1004 h993 (ne_ll (by decide))) h1004
        have h1026 : w1007 q797 = some (aZ g.2.1 6 (fun _ => 0)) := by rw [ew1007]; exact fU_k (fw_ne h1005 h993 (ne_ll (by decide))) h1005
        have h1027 : w1007 q879 = some (aZ g.2.1 64 (fun _ => 0)) := by rw [ew1007]; exact fU_k (fw_ne h1006 h993 (ne_ll (by decide))) h1006
        refine lv_iinc (v := iZ (((0 + 1) + 1) + 1)) (lv' := [(1, .int (iZ (((0 + 1) + 1) + 1))), (0, .ref b)]) hx hb d_Mo_init_206 hl (k := 0) rfl (iZ_add _ _) (by decide) rfl (fun ls hl => ?_)
        refine lv_goto (tgt := 193) hx hb d_Mo_init_209 (by decide) ?_
        refine lv_iload_n hx hb d_Mo_init_193 rfl (lv_at hl 0 rfl) ?_
        refine lv_iconst (v := iZ 4) hx hb d_Mo_init_194 rfl ?_
        refine zz_icmp_ge (tgt := 212) hx hb d_Mo_init_195 (by decide) ⟨by omega, by omega⟩ ⟨by omega, by omega⟩ (fun c195 => ?_) (fun c195 => ?_)
        · exfalso; omega
        · refine lv_aload_n hx hb d_Mo_init_198 rfl (lv_at hl 1 rfl) ?_
          refine fw_get (ci := 5) (v := .ref q125) (C := rMo) (T := fMo) (N := 26) hx hb hts iMo hown hK hF.1 h1008 rfl 12 (by decide) (hts _ t_520) (fun _ h9 => h9) rfl d_Mo_init_199 ?_
          refine lv_iload_n hx hb d_Mo_init_202 rfl (lv_at hl 0 rfl) ?_
          refine lv_bipush (v := iZ 10) hx hb d_Mo_init_203 (by decide) ?_
          refine fw_iast (x := 10) hx hb hK hF h1014 (by decide) ((Int.toNat (((0 + 1) + 1) + 1))) (by omega) (by omega) d_Mo_init_205 (fun H locs hF => ?_)
          obtain ⟨w1028, ew1028⟩ : ∃ zw : fw, zw = fU w1007 q125 (aZ g.2.1 4 (va_up (va_up (va_up (va_up (fun _ => 0) 0 10) ((Int.toNat (0 + 1))) 10) ((Int.toNat ((0 + 1) + 1))) 10) ((Int.toNat (((0 + 1) + 1) + 1))) 10)) := ⟨_, rfl⟩
          have hF := fW_to ew1028 hF
          have h1029 : w1028 b = some (.inr (5, [.int (iZ 0), .int (iZ 0), .int (iZ 0), .int (iZ 0), .int (iZ (-3)), .int (iZ (-1)), .int (bZ false), .ref q15, .ref q29, .ref q47, .ref q69, .ref q95, .ref q125, .ref q159, .ref q197, .ref q239, .ref q285, .ref q335, .ref q389, .ref q447, .ref q509, .ref q575, .ref q645, .ref q719, .ref q797, .ref q879])) := by rw [ew1028]; exact fU_k (fw_ne h1008 h1014 ne_rl) h1008
          have h1030 : w1028 q15 = some (aZ g.2.1 6 (fun _ => 0)) := by rw [ew1028]; exact fU_k (fw_ne h1009 h1014 (ne_ll (by decide))) h1009
          have h1031 : w1028 q29 = some (aZ g.2.1 6 (fun _ => 0)) := by rw [ew1028]; exact fU_k (fw_ne h1010 h1014 (ne_ll (by decide))) h1010
          have h1032 : w1028 q47 = some (aZ g.2.1 6 (fun _ => 0)) := by rw [ew1028]; exact fU_k (fw_ne h1011 h1014 (ne_ll (by decide))) h1011
          have h1033 : w1028 q69 = some (aZ g.2.1 6 (fun _ => 0)) := by rw [ew1028]; exact fU_k (fw_ne h1012 h1014 (ne_ll (by decide))) h1012
          have h1034 : w1028 q95 = some (aZ g.2.1 6 (fun _ => 0)) := by rw [ew1028]; exact fU_k (fw_ne h1013 h1014 (ne_ll (by decide))) h1013
          have h1035 : w1028 q125 = some (aZ g.2.1 4 (va_up (va_up (va_up (va_up (fun _ => 0) 0 10) ((Int.toNat (0 + 1))) 10) ((Int.toNat ((0 + 1) + 1))) 10) ((Int.toNat (((0 + 1) + 1) + 1))) 10)) := by rw [ew1028]; exact fU_s _ _ _
          have h1036 : w1028 q159 = some (aZ g.2.1 6 (fun _ => 0)) := by rw [ew1028]; exact fU_k (fw_ne h1015 h1014 (ne_ll (by decide))) h1015
          have h1037 : w1028 q197 = some (aZ g.2.1 18 (fun _ => 0)) := by rw [ew1028]; exact fU_k (fw_ne h1016 h1014 (ne_ll (by decide))) h1016
          have h1038 : w1028 q239 = some (aZ g.2.1 18 (fun _ => 0)) := by rw [ew1028]; exact fU_k (fw_ne h1017 h1014 (ne_ll (by decide))) h1017
          have h1039 : w1028 q285 = some (aZ g.2.1 18 (fun _ => 0)) := by rw [ew1028]; exact fU_k (fw_ne h1018 h1014 (ne_ll (by decide))) h1018
          have h1040 : w1028 q335 = some (aZ g.2.1 6 (fun _ => 0)) := by rw [ew1028]; exact fU_k (fw_ne h1019 h1014 (ne_ll (by decide))) h1019
          have h1041 : w1028 q389 = some (aZ g.2.1 48 (fun _ => 0)) := by rw [ew1028]; exact fU_k (fw_ne h1020 h1014 (ne_ll (by decide))) h1020
          have h1042 : w1028 q447 = some (aZ g.2.1 6 (fun _ => 0)) := by rw [ew1028]; exact fU_k (fw_ne h1021 h1014 (ne_ll (by decide))) h1021
          have h1043 : w1028 q509 = some (aZ g.2.1 6 (fun _ => 0)) := by rw [ew1028]; exact fU_k (fw_ne h1022 h1014 (ne_ll (by decide))) h1022
          have h1044 : w1028 q575 = some (aZ g.2.1 6 (fun _ => 0)) := by rw [ew1028]; exact fU_k (fw_ne h1023 h1014 (ne_ll (by decide))) h1023
          have h1045 : w1028 q645 = some (aZ g.2.1 6 (fun _ => 0)) := by rw [ew1028]; exact fU_k (fw_ne h1024 h1014 (ne_ll (by decide))) h1024
          have h1046 : w1028 q719 = some (aZ g.2.1 6 (fun _ => 0)) := by rw [ew1028]; exact fU_k (fw_ne h1025 h1014 (ne_ll (by decide))) h1025
          have h1047 : w1028 q797 = some (aZ g.2.1 6 (fun _ => 0)) := by rw [ew1028]; exact fU_k (fw_ne h1026 h1014 (ne_ll (by decide))) h1026
          have h1048 : w1028 q879 = some (aZ g.2.1 64 (fun _ => 0)) := by rw [ew1028]; exact fU_k (fw_ne h1027 h1014 (ne_ll (by decide))) h1027
          refine lv_iinc (v := iZ ((((0 + 1) + 1) + 1) + 1)) (lv' := [(1, .int (iZ ((((0 + 1) + 1) + 1) + 1))), (0, .ref b)]) hx hb d_Mo_init_206 hl (k := 0) rfl (iZ_add _ _) (by decide) rfl (fun ls hl => ?_)
          refine lv_goto (tgt := 193) hx hb d_Mo_init_209 (by decide) ?_
          refine lv_iload_n hx hb d_Mo_init_193 rfl (lv_at hl 0 rfl) ?_
          refine lv_iconst (v := iZ 4) hx hb d_Mo_init_194 rfl ?_
          refine zz_icmp_ge (tgt := 212) hx hb d_Mo_init_195 (by decide) ⟨by omega, by omega⟩ ⟨by omega, by omega⟩ (fun c195 => ?_) (fun c195 => ?_)
          · have hF := fW_ext (h := fun _ => 10) hF h1035 (fun j hj => by match j, hj with | 0, _ => rfl | 1, _ => rfl | 2, _ => rfl | 3, _ => rfl | k + 4, hj => exact absurd hj (by omega))
            obtain ⟨w1049, ew1049⟩ : ∃ zw : fw, zw = fU w1028 q125 (aZ g.2.1 4 (fun _ => 10)) := ⟨_, rfl⟩
            have hF := fW_to ew1049 hF
            have h1050 : w1049 b = some (.inr (5, [.int (iZ 0), .int (iZ 0), .int (iZ 0), .int (iZ 0), .int (iZ (-3)), .int (iZ (-1)), .int (bZ false), .ref q15, .ref q29, .ref q47, .ref q69, .ref q95, .ref q125, .ref q159, .ref q197, .ref q239, .ref q285, .ref q335, .ref q389, .ref q447, .ref q509, .ref q575, .ref q645, .ref q719, .ref q797, .ref q879])) := by rw [ew1049]; exact fU_k (fw_ne h1029 h1035 ne_rl) h1029
            have h1051 : w1049 q15 = some (aZ g.2.1 6 (fun _ => 0)) := by rw [ew1049]; exact fU_k (fw_ne h1030 h1035 (ne_ll (by decide))) h1030
            have h1052 : w1049 q29 = some (aZ g.2.1 6 (fun _ => 0)) := by rw [ew1049]; exact fU_k (fw_ne h1031 h1035 (ne_ll (by decide))) h1031
            have h1053 : w1049 q47 = some (aZ g.2.1 6 (fun _ => 0)) := by rw [ew1049]; exact fU_k (fw_ne h1032 h1035 (ne_ll (by decide))) h1032
            have h1054 : w1049 q69 = some (aZ g.2.1 6 (fun _ => 0)) := by rw [ew1049]; exact fU_k (fw_ne h1033 h1035 (ne_ll (by decide))) h1033
            have h1055 : w1049 q95 = some (aZ g.2.1 6 (fun _ => 0)) := by rw [ew1049]; exact fU_k (fw_ne h1034 h1035 (ne_ll (by decide))) h1034
            have h1056 : w1049 q125 = some (aZ g.2.1 4 (fun _ => 10)) := by rw [ew1049]; exact fU_s _ _ _
            have h1057 : w1049 q159 = some (aZ g.2.1 6 (fun _ => 0)) := by rw [ew1049]; exact fU_k (fw_ne h1036 h1035 (ne_ll (by decide))) h1036
            have h1058 : w1049 q197 = some (aZ g.2.1 18 (fun _ => 0)) := by rw [ew1049]; exact fU_k (fw_ne h1037 h1035 (ne_ll (by decide))) h1037
            have h1059 : w1049 q239 = some (aZ g.2.1 18 (fun _ => 0)) := by rw [ew1049]; exact fU_k (fw_ne h1038 h1035 (ne_ll (by decide))) h1038
            have h1060 : w1049 q285 = some (aZ g.2.1 18 (fun _ => 0)) := by rw [ew1049]; exact fU_k (fw_ne h1039 h1035 (ne_ll (by decide))) h1039
            have h1061 : w1049 q335 = some (aZ g.2.1 6 (fun _ => 0)) := by rw [ew1049]; exact fU_k (fw_ne h1040 h1035 (ne_ll (by decide))) h1040
            have h1062 : w1049 q389 = some (aZ g.2.1 48 (fun _ => 0)) := by rw [ew1049]; exact fU_k (fw_ne h1041 h1035 (ne_ll (by decide))) h1041
            have h1063 : w1049 q447 = some (aZ g.2.1 6 (fun _ => 0)) := by rw [ew1049]; exact fU_k (fw_ne h1042 h1035 (ne_ll (by decide))) h1042
            have h1064 : w1049 q509 = some (aZ g.2.1 6 (fun _ => 0)) := by rw [ew1049]; exact fU_k (fw_ne h1043 h1035 (ne_ll (by decide))) h1043
            have h1065 : w1049 q575 = some (aZ g.2.1 6 (fun _ => 0)) := by rw [ew1049]; exact fU_k (fw_ne h1044 h1035 (ne_ll (by decide))) h1044
            have h1066 : w1049 q645 = some (aZ g.2.1 6 (fun _ => 0)) := by rw [ew1049]; exact fU_k (fw_ne h1045 h1035 (ne_ll (by decide))) h1045
            have h1067 : w1049 q719 = some (aZ g.2.1 6 (fun _ => 0)) := by rw [ew1049]; exact fU_k (fw_ne h1046 h1035 (ne_ll (by decide))) h1046
            have h1068 : w1049 q797 = some (aZ g.2.1 6 (fun _ => 0)) := by rw [ew1049]; exact fU_k (fw_ne h1047 h1035 (ne_ll (by decide))) h1047
            have h1069 : w1049 q879 = some (aZ g.2.1 64 (fun _ => 0)) := by rw [ew1049]; exact fU_k (fw_ne h1048 h1035 (ne_ll (by decide))) h1048
            have hoff : ∀ q, q ≠ b → q ≠ q15 → q ≠ q29 → q ≠ q47 → q ≠ q69 → q ≠ q95 → q ≠ q125 → q ≠ q159 → q ≠ q197 → q ≠ q239 → q ≠ q285 → q ≠ q335 → q ≠ q389 → q ≠ q447 → q ≠ q509 → q ≠ q575 → q ≠ q645 → q ≠ q719 → q ≠ q797 → q ≠ q879 → w1049 q = w q := (fun q x0 x1 x2 x3 x4 x5 x6 x7 x8 x9 x10 x11 x12 x13 x14 x15 x16 x17 x18 x19 => by rw [ew1049, fU_n x6, ew1028, fU_n x6, ew1007, fU_n x6, ew986, fU_n x6, ew965, fU_n x6, ew944, fU_n x0, ew880, fU_n x19, ew859, fU_n x0, ew798, fU_n x18, ew778, fU_n x0, ew720, fU_n x17, ew701, fU_n x0, ew646, fU_n x16, ew628, fU_n x0, ew576, fU_n x15, ew559, fU_n x0, ew510, fU_n x14, ew494, fU_n x0, ew448, fU_n x13, ew433, fU_n x0, ew390, fU_n x12, ew376, fU_n x0, ew336, fU_n x11, ew323, fU_n x0, ew286, fU_n x10, ew274, fU_n x0, ew240, fU_n x9, ew229, fU_n x0, ew198, fU_n x8, ew188, fU_n x0, ew160, fU_n x7, ew151, fU_n x0, ew126, fU_n x6, ew118, fU_n x0, ew96, fU_n x5, ew89, fU_n x0, ew70, fU_n x4, ew64, fU_n x0, ew48, fU_n x3, ew43, fU_n x0, ew30, fU_n x2, ew26, fU_n x0, ew16, fU_n x1, ew13, fU_n x0, ew11, fU_n x0, ew9, fU_n x0, ew7, fU_n x0, ew5, fU_n x0, ew3, fU_n x0, ew1, fU_n x0])
            have hpw : List.Pairwise (fun x y => x ≠ y) ([q15, q29, q47, q69, q95, q125, q159, q197, q239, q285, q335, q389, q447, q509, q575, q645, q719, q797, q879] : List Nat) := List.pairwise_cons.mpr ⟨(fun y hy => by simp only [List.mem_cons, List.not_mem_nil, or_false] at hy; rcases hy with z | z | z | z | z | z | z | z | z | z | z | z | z | z | z | z | z | z <;> rw [z] <;> assumption), List.pairwise_cons.mpr ⟨(fun y hy => by simp only [List.mem_cons, List.not_mem_nil, or_false] at hy; rcases hy with z | z | z | z | z | z | z | z | z | z | z | z | z | z | z | z | z <;> rw [z] <;> assumption), List.pairwise_cons.mpr ⟨(fun y hy => by simp only [List.mem_cons, List.not_mem_nil, or_false] at hy; rcases hy with z | z | z | z | z | z | z | z | z | z | z | z | z | z | z | z <;> rw [z] <;> assumption), List.pairwise_cons.mpr ⟨(fun y hy => by simp only [List.mem_cons, List.not_mem_nil, or_false] at hy; rcases hy with z | z | z | z | z | z | z | z | z | z | z | z | z | z | z <;> rw [z] <;> assumption), List.pairwise_cons.mpr ⟨(fun y hy => by simp only [List.mem_cons, List.not_mem_nil, or_false] at hy; rcases hy with z | z | z | z | z | z | z | z | z | z | z | z | z | z <;> rw [z] <;> assumption), List.pairwise_cons.mpr ⟨(fun y hy => by simp only [List.mem_cons, List.not_mem_nil, or_false] at hy; rcases hy with z | z | z | z | z | z | z | z | z | z | z | z | z <;> rw [z] <;> assumption), List.pairwise_cons.mpr ⟨(fun y hy => by simp only [List.mem_cons, List.not_mem_nil, or_false] at hy; rcases hy with z | z | z | z | z | z | z | z | z | z | z | z <;> rw [z] <;> assumption), List.pairwise_cons.mpr ⟨(fun y hy => by simp only [List.mem_cons, List.not_mem_nil, or_false] at hy; rcases hy with z | z | z | z | z | z | z | z | z | z | z <;> rw [z] <;> assumption), List.pairwise_cons.mpr ⟨(fun y hy => by simp only [List.mem_cons, List.not_mem_nil, or_false] at hy; rcases hy with z | z | z | z | z | z | z | z | z | z <;> rw [z] <;> assumption), List.pairwise_cons.mpr ⟨(fun y hy => by simp only [List.mem_cons, List.not_mem_nil, or_false] at hy; rcases hy with z | z | z | z | z | z | z | z | z <;> rw [z] <;> assumption), List.pairwise_cons.mpr ⟨(fun y hy => by simp only [List.mem_cons, List.not_mem_nil, or_false] at hy; rcases hy with z | z | z | z | z | z | z | z <;> rw [z] <;> assumption), List.pairwise_cons.mpr ⟨(fun y hy => by simp only [List.mem_cons, List.not_mem_nil, or_false] at hy; rcases hy with z | z | z | z | z | z | z <;> rw [z] <;> assumption), List.pairwise_cons.mpr ⟨(fun y hy => by simp only [List.mem_cons, List.not_mem_nil, or_false] at hy; rcases hy with z | z | z | z | z | z <;> rw [z] <;> assumption), List.pairwise_cons.mpr ⟨(fun y hy => by simp only [List.mem_cons, List.not_mem_nil, or_false] at hy; rcases hy with z | z | z | z | z <;> rw [z] <;> assumption), List.pairwise_cons.mpr ⟨(fun y hy => by simp only [List.mem_cons, List.not_mem_nil, or_false] at hy; rcases hy with z | z | z | z <;> rw [z] <;> assumption), List.pairwise_cons.mpr ⟨(fun y hy => by simp only [List.mem_cons, List.not_mem_nil, or_false] at hy; rcases hy with z | z | z <;> rw [z] <;> assumption), List.pairwise_cons.mpr ⟨(fun y hy => by simp only [List.mem_cons, List.not_mem_nil, or_false] at hy; rcases hy with z | z <;> rw [z] <;> assumption), List.pairwise_cons.mpr ⟨(fun y hy => by rw [List.mem_singleton.mp hy]; assumption), List.pairwise_cons.mpr ⟨(fun y hy => by cases hy), List.Pairwise.nil⟩⟩⟩⟩⟩⟩⟩⟩⟩⟩⟩⟩⟩⟩⟩⟩⟩⟩⟩
            exact rw_vret hx hb hr hlocks d_Mo_init_212 (by omega) (by omega) hF ⟨fun k => ([q15, q29, q47, q69, q95, q125, q159, q197, q239, q285, q335, q389, q447, q509, q575, q645, q719, q797, q879] : List Nat).getD k 0, ⟨h1050, h1051, h1052, h1053, h1054, h1055, h1056, h1057, h1058, h1059, h1060, h1061, h1062, h1063, h1064, h1065, h1066, h1067, h1068, h1069, fun i j hi hj e => pw_get hpw hi hj e⟩, (fun k hk => by match k, hk with | 0, _ => exact n25 | 1, _ => exact n42 | 2, _ => exact n63 | 3, _ => exact n88 | 4, _ => exact n117 | 5, _ => exact n150 | 6, _ => exact n187 | 7, _ => exact n228 | 8, _ => exact n273 | 9, _ => exact n322 | 10, _ => exact n375 | 11, _ => exact n432 | 12, _ => exact n493 | 13, _ => exact n558 | 14, _ => exact n627 | 15, _ => exact n700 | 16, _ => exact n777 | 17, _ => exact n858 | 18, _ => exact n943 | k + 19, hk => exact absurd hk (by omega)), (fun q x0 hn => hoff q x0 (fun e => hn (e ▸ n25)) (fun e => hn (e ▸ n42)) (fun e => hn (e ▸ n63)) (fun e => hn (e ▸ n88)) (fun e => hn (e ▸ n117)) (fun e => hn (e ▸ n150)) (fun e => hn (e ▸ n187)) (fun e => hn (e ▸ n228)) (fun e => hn (e ▸ n273)) (fun e => hn (e ▸ n322)) (fun e => hn (e ▸ n375)) (fun e => hn (e ▸ n432)) (fun e => hn (e ▸ n493)) (fun e => hn (e ▸ n558)) (fun e => hn (e ▸ n627)) (fun e => hn (e ▸ n700)) (fun e => hn (e ▸ n777)) (fun e => hn (e ▸ n858)) (fun e => hn (e ▸ n943)))⟩
          · exfalso; omega
