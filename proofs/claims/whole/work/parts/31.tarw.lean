set_option maxHeartbeats 4000000 in
set_option maxRecDepth 100000 in
theorem c_Ta_init (l : Launch) (g : GG) (w : fw) (sz : Nat) (a : Nat) (per cst ddl pri of : Int) (ha : w a = some (.inr (3, [.int (iZ 0), .int (iZ 0), .int (iZ 0), .int (iZ 0), .int (bZ false), .null, .null, .int (iZ 0)]))) (hr_0 : ir of) : RWv l y_Ta_init w_Ta_init ({ frames := 4, cells := 3, slots := 19, locals := 72 }) g w sz [.ref a, .int (iZ per), .int (iZ cst), .int (iZ ddl), .int (iZ pri), .int (iZ of)] 3 19 ((fun w1 => ∃ sl jq ra : Nat, w sl = none ∧ w jq = none ∧ w ra = none ∧ w1 a = some (.inr (3, [.int (iZ per), .int (iZ cst), .int (iZ ddl), .int (iZ pri), .int (bZ (decide (of = -1))), .ref sl, .ref jq, .int (iZ of)])) ∧ w1 sl = some (.inr (6, [.int (iZ 0), .ref g.2.2.2, .int (iZ 0)])) ∧ w1 jq = some (.inr (1, [.ref ra, .int (iZ 0), .int (iZ 0), .int (iZ 0), .int (iZ 0), .int (iZ 0), .int (iZ 0), .int (iZ 0)])) ∧ w1 ra = some (aZ g.2.1 8 (fun _ => 0)) ∧ (∀ q, q ≠ a → q ≠ sl → q ≠ jq → q ≠ ra → w1 q = w q))) := by
  refine rw_go (by decide) rfl (Nat.le_of_ble_eq_true rfl) ?_
  intro p e s m below meth c hx hb hr hml hown hts hlocks hin hsz hK hT hA hF ls hl
  subst hsz
  have hown : s.vm.findClass rTa = some m.cls := hown
  have hl : lv_has ls 6 [(0, .ref a), (1, .int (iZ per)), (2, .int (iZ cst)), (3, .int (iZ ddl)), (4, .int (iZ pri)), (5, .int (iZ of))] := hl
  obtain ⟨hr_0a, hr_0b⟩ := hr_0
  refine lv_aload_n hx hb d_Ta_init_0 rfl (lv_at hl 0 rfl) ?_
  refine W.objInit hx hb hown (hts _ t_153) (hts _ t_66) (hts _ k_Oj_init) rfl (by rw [hml]; exact hl.1) rfl d_Ta_init_1 (Nat.le_of_ble_eq_true rfl) (Nat.le_of_ble_eq_true rfl) ?_
  refine W.eq (g2 := F0 m 4 ls []) rfl ?_
  refine lv_aload_n hx hb d_Ta_init_4 rfl (lv_at hl 0 rfl) ?_
  refine fw_new (ci := 6) (fs := [.int (iZ 0), .null, .int (iZ 0)]) (C := rAL) (T := fAL) (N := 3) hx hb hts iAL yAL_t yAL_ok hown (hts _ t_154) (hts _ t_69) (hts _ t_48) hK hF hA rfl dv_AL (Nat.le_of_ble_eq_true rfl) (Nat.le_of_ble_eq_true rfl) d_Ta_init_5 (fun q1 H nq1 hF => ?_)
  obtain ⟨w2, ew2⟩ : ∃ zw : fw, zw = fU w q1 (.inr (6, [.int (iZ 0), .null, .int (iZ 0)])) := ⟨_, rfl⟩
  have hF := fW_to ew2 hF
  have h3 : w2 a = some (.inr (3, [.int (iZ 0), .int (iZ 0), .int (iZ 0), .int (iZ 0), .int (bZ false), .null, .null, .int (iZ 0)])) := by rw [ew2]; exact fU_k (fw_new_ne ha nq1) ha
  have h4 : w2 q1 = some (.inr (6, [.int (iZ 0), .null, .int (iZ 0)])) := by rw [ew2]; exact fU_s _ _ _
  refine lv_dup hx hb d_Ta_init_8 rfl ?_
  refine fw_callv (va_runI (As := []) (rest := [.ref q1, .ref a]) ⟨hx, hb, hml, hown, hts⟩ (c_AL_init l g w2 H.size q1 0 0 h4) (cwI 0 hts (gdT k_AL_init) rfl rfl rfl (hts _ t_48) (hts _ t_155) (hts _ t_71) rfl (by decide +kernel) ⟨Nat.le_of_ble_eq_true rfl, Nat.le_of_ble_eq_true rfl⟩) ⟨rwP_blind, rwP_pre hK hT hA hF⟩ rfl rfl hl.1 rfl (lv_room (Nat.le_of_ble_eq_true rfl)) d_Ta_init_9 ⟨by decide, by decide⟩) hF hA (fun w5 H locs hp6 hz hF => ?_)
  obtain ⟨k1, k2⟩ := hp6
  have h7 : w5 a = some (.inr (3, [.int (iZ 0), .int (iZ 0), .int (iZ 0), .int (iZ 0), .int (bZ false), .null, .null, .int (iZ 0)])) := (k2 a (fw_ne h3 h4 (ne_rr (by decide)))).trans h3
  refine fw_putF (ci := 3) (v := .ref q1) (ty := .object "java/util/ArrayList") (C := rTa) (T := fTa) (N := 8) hx hb hts iTa yTa_t yTa_ok yTa_nm hown hK hF h7 rfl 5 (by decide) (hts _ t_202) (fun _ h9 => h9) rfl hin rfl (by decide +kernel) rfl rfl (Nat.le_of_ble_eq_true rfl) d_Ta_init_12 (fun H locs hF => ?_)
  obtain ⟨w8, ew8⟩ : ∃ zw : fw, zw = fU w5 a (.inr (3, [.int (iZ 0), .int (iZ 0), .int (iZ 0), .int (iZ 0), .int (bZ false), .ref q1, .null, .int (iZ 0)])) := ⟨_, rfl⟩
  have hF := fW_to ew8 hF
  have h9 : w8 a = some (.inr (3, [.int (iZ 0), .int (iZ 0), .int (iZ 0), .int (iZ 0), .int (bZ false), .ref q1, .null, .int (iZ 0)])) := by rw [ew8]; exact fU_s _ _ _
  have h10 : w8 q1 = some (.inr (6, [.int (iZ 0), .ref g.2.2.2, .int (iZ 0)])) := by rw [ew8]; exact fU_k (fw_ne k1 h7 (ne_rr (by decide))) k1
  refine lv_aload_n hx hb d_Ta_init_15 rfl (lv_at hl 0 rfl) ?_
  refine fw_new (ci := 1) (fs := [.null, .int (iZ 0), .int (iZ 0), .int (iZ 0), .int (iZ 0), .int (iZ 0), .int (iZ 0), .int (iZ 0)]) (C := rJq) (T := fJq) (N := 8) hx hb hts iJq yJq_t yJq_ok hown (hts _ t_156) (hts _ t_157) (hts _ t_52) hK hF hA rfl dv_Jq (Nat.le_of_ble_eq_true rfl) (Nat.le_of_ble_eq_true rfl) d_Ta_init_16 (fun q11 H nq11 hF => ?_)
  obtain ⟨w12, ew12⟩ : ∃ zw : fw, zw = fU w8 q11 (.inr (1, [.null, .int (iZ 0), .int (iZ 0), .int (iZ 0), .int (iZ 0), .int (iZ 0), .int (iZ 0), .int (iZ 0)])) := ⟨_, rfl⟩
  have hF := fW_to ew12 hF
  have h13 : w12 a = some (.inr (3, [.int (iZ 0), .int (iZ 0), .int (iZ 0), .int (iZ 0), .int (bZ false), .ref q1, .null, .int (iZ 0)])) := by rw [ew12]; exact fU_k (fw_new_ne h9 nq11) h9
  have h14 : w12 q1 = some (.inr (6, [.int (iZ 0), .ref g.2.2.2, .int (iZ 0)])) := by rw [ew12]; exact fU_k (fw_new_ne h10 nq11) h10
  have h15 : w12 q11 = some (.inr (1, [.null, .int (iZ 0), .int (iZ 0), .int (iZ 0), .int (iZ 0), .int (iZ 0), .int (iZ 0), .int (iZ 0)])) := by rw [ew12]; exact fU_s _ _ _
  have n16 : w5 q11 = none := fU_none (by rw [← ew8]; exact nq11)
  have n17 : w2 q11 = none := by
    have z18 : q11 ≠ q1 := fun y => by rw [y, k1] at n16; cases n16
    rw [← k2 q11 z18]; exact n16
  have n19 : w q11 = none := fU_none (by rw [← ew2]; exact n17)
  refine lv_dup hx hb d_Ta_init_19 rfl ?_
  refine fw_callv (va_runIN (As := []) (rest := [.ref q11, .ref a]) ⟨hx, hb, hml, hown, hts⟩ (c_Jq_init l g w12 H.size q11 h15) ⟨va_cnB 0 hts (gdT k_Jq_init) rfl rfl rfl (hK.2.1 _ n_158) (hts _ t_52) (by decide +kernel) ⟨Nat.le_of_ble_eq_true rfl, Nat.le_of_ble_eq_true rfl⟩, rfl, hts _ t_159⟩ ⟨rwP_blind, rwP_pre hK hT hA hF⟩ rfl rfl hl.1 rfl (lv_room (Nat.le_of_ble_eq_true rfl)) d_Ta_init_20 ⟨by decide, by decide⟩) hF hA (fun w20 H locs hp21 hz hF => ?_)
  obtain ⟨q22, j1, j2, j3, j4⟩ := hp21
  have h23 : w20 a = some (.inr (3, [.int (iZ 0), .int (iZ 0), .int (iZ 0), .int (iZ 0), .int (bZ false), .ref q1, .null, .int (iZ 0)])) := (j4 a (fw_ne h13 h15 (ne_rr (by decide))) (fw_new_ne h13 j1)).trans h13
  have h24 : w20 q1 = some (.inr (6, [.int (iZ 0), .ref g.2.2.2, .int (iZ 0)])) := (j4 q1 (fw_ne h14 h15 (ne_rr (by decide))) (fw_new_ne h14 j1)).trans h14
  have n25 : w8 q22 = none := fU_none (by rw [← ew12]; exact j1)
  have n26 : w5 q22 = none := fU_none (by rw [← ew8]; exact n25)
  have n27 : w2 q22 = none := by
    have z28 : q22 ≠ q1 := fun y => by rw [y, k1] at n26; cases n26
    rw [← k2 q22 z28]; exact n26
  have n29 : w q22 = none := fU_none (by rw [← ew2]; exact n27)
  refine fw_putF (ci := 3) (v := .ref q11) (ty := .object "CeilingScheduler$JobQueue") (C := rTa) (T := fTa) (N := 8) hx hb hts iTa yTa_t yTa_ok yTa_nm hown hK hF h23 rfl 6 (by decide) (hts _ t_204) (fun _ h9 => h9) rfl hin rfl (by decide +kernel) rfl rfl (Nat.le_of_ble_eq_true rfl) d_Ta_init_23 (fun H locs hF => ?_)
  obtain ⟨w30, ew30⟩ : ∃ zw : fw, zw = fU w20 a (.inr (3, [.int (iZ 0), .int (iZ 0), .int (iZ 0), .int (iZ 0), .int (bZ false), .ref q1, .ref q11, .int (iZ 0)])) := ⟨_, rfl⟩
  have hF := fW_to ew30 hF
  have h31 : w30 a = some (.inr (3, [.int (iZ 0), .int (iZ 0), .int (iZ 0), .int (iZ 0), .int (bZ false), .ref q1, .ref q11, .int (iZ 0)])) := by rw [ew30]; exact fU_s _ _ _
  have h32 : w30 q1 = some (.inr (6, [.int (iZ 0), .ref g.2.2.2, .int (iZ 0)])) := by rw [ew30]; exact fU_k (fw_ne h24 h23 (ne_rr (by decide))) h24
  have h33 : w30 q11 = some (.inr (1, [.ref q22, .int (iZ 0), .int (iZ 0), .int (iZ 0), .int (iZ 0), .int (iZ 0), .int (iZ 0), .int (iZ 0)])) := by rw [ew30]; exact fU_k (fw_ne j2 h23 (ne_rr (by decide))) j2
  have h34 : w30 q22 = some (aZ g.2.1 8 (fun _ => 0)) := by rw [ew30]; exact fU_k (fw_ne j3 h23 ne_lr) j3
  refine lv_aload_n hx hb d_Ta_init_26 rfl (lv_at hl 0 rfl) ?_
  refine lv_iload_n hx hb d_Ta_init_27 rfl (lv_at hl 1 rfl) ?_
  refine fw_putF (ci := 3) (v := .int (iZ per)) (ty := .int) (C := rTa) (T := fTa) (N := 8) hx hb hts iTa yTa_t yTa_ok yTa_nm hown hK hF h31 rfl 0 (by decide) (hts _ t_192) (fun _ h9 => h9) rfl hin rfl (by decide +kernel) rfl rfl (Nat.le_of_ble_eq_true rfl) d_Ta_init_28 (fun H locs hF => ?_)
  obtain ⟨w35, ew35⟩ : ∃ zw : fw, zw = fU w30 a (.inr (3, [.int (iZ per), .int (iZ 0), .int (iZ 0), .int (iZ 0), .int (bZ false), .ref q1, .ref q11, .int (iZ 0)])) := ⟨_, rfl⟩
  have hF := fW_to ew35 hF
  have h36 : w35 a = some (.inr (3, [.int (iZ per), .int (iZ 0), .int (iZ 0), .int (iZ 0), .int (bZ false), .ref q1, .ref q11, .int (iZ 0)])) := by rw [ew35]; exact fU_s _ _ _
  have h37 : w35 q1 = some (.inr (6, [.int (iZ 0), .ref g.2.2.2, .int (iZ 0)])) := by rw [ew35]; exact fU_k (fw_ne h32 h31 (ne_rr (by decide))) h32
  have h38 : w35 q11 = some (.inr (1, [.ref q22, .int (iZ 0), .int (iZ 0), .int (iZ 0), .int (iZ 0), .int (iZ 0), .int (iZ 0), .int (iZ 0)])) := by rw [ew35]; exact fU_k (fw_ne h33 h31 (ne_rr (by decide))) h33
  have h39 : w35 q22 = some (aZ g.2.1 8 (fun _ => 0)) := by rw [ew35]; exact fU_k (fw_ne h34 h31 ne_lr) h34
  refine lv_aload_n hx hb d_Ta_init_31 rfl (lv_at hl 0 rfl) ?_
  refine lv_iload_n hx hb d_Ta_init_32 rfl (lv_at hl 2 rfl) ?_
  refine fw_putF (ci := 3) (v := .int (iZ cst)) (ty := .int) (C := rTa) (T := fTa) (N := 8) hx hb hts iTa yTa_t yTa_ok yTa_nm hown hK hF h36 rfl 1 (by decide) (hts _ t_194) (fun _ h9 => h9) rfl hin rfl (by decide +kernel) rfl rfl (Nat.le_of_ble_eq_true rfl) d_Ta_init_33 (fun H locs hF => ?_)
  obtain ⟨w40, ew40⟩ : ∃ zw : fw, zw = fU w35 a (.inr (3, [.int (iZ per), .int (iZ cst), .int (iZ 0), .int (iZ 0), .int (bZ false), .ref q1, .ref q11, .int (iZ 0)])) := ⟨_, rfl⟩
  have hF := fW_to ew40 hF
  have h41 : w40 a = some (.inr (3, [.int (iZ per), .int (iZ cst), .int (iZ 0), .int (iZ 0), .int (bZ false), .ref q1, .ref q11, .int (iZ 0)])) := by rw [ew40]; exact fU_s _ _ _
  have h42 : w40 q1 = some (.inr (6, [.int (iZ 0), .ref g.2.2.2, .int (iZ 0)])) := by rw [ew40]; exact fU_k (fw_ne h37 h36 (ne_rr (by decide))) h37
  have h43 : w40 q11 = some (.inr (1, [.ref q22, .int (iZ 0), .int (iZ 0), .int (iZ 0), .int (iZ 0), .int (iZ 0), .int (iZ 0), .int (iZ 0)])) := by rw [ew40]; exact fU_k (fw_ne h38 h36 (ne_rr (by decide))) h38
  have h44 : w40 q22 = some (aZ g.2.1 8 (fun _ => 0)) := by rw [ew40]; exact fU_k (fw_ne h39 h36 ne_lr) h39
  refine lv_aload_n hx hb d_Ta_init_36 rfl (lv_at hl 0 rfl) ?_
  refine lv_iload_n hx hb d_Ta_init_37 rfl (lv_at hl 3 rfl) ?_
  refine fw_putF (ci := 3) (v := .int (iZ ddl)) (ty := .int) (C := rTa) (T := fTa) (N := 8) hx hb hts iTa yTa_t yTa_ok yTa_nm hown hK hF h41 rfl 2 (by decide) (hts _ t_196) (fun _ h9 => h9) rfl hin rfl (by decide +kernel) rfl rfl (Nat.le_of_ble_eq_true rfl) d_Ta_init_38 (fun H locs hF => ?_)
  obtain ⟨w45, ew45⟩ : ∃ zw : fw, zw = fU w40 a (.inr (3, [.int (iZ per), .int (iZ cst), .int (iZ ddl), .int (iZ 0), .int (bZ false), .ref q1, .ref q11, .int (iZ 0)])) := ⟨_, rfl⟩
  have hF := fW_to ew45 hF
  have h46 : w45 a = some (.inr (3, [.int (iZ per), .int (iZ cst), .int (iZ ddl), .int (iZ 0), .int (bZ false), .ref q1, .ref q11, .int (iZ 0)])) := by rw [ew45]; exact fU_s _ _ _
  have h47 : w45 q1 = some (.inr (6, [.int (iZ 0), .ref g.2.2.2, .int (iZ 0)])) := by rw [ew45]; exact fU_k (fw_ne h42 h41 (ne_rr (by decide))) h42
  have h48 : w45 q11 = some (.inr (1, [.ref q22, .int (iZ 0), .int (iZ 0), .int (iZ 0), .int (iZ 0), .int (iZ 0), .int (iZ 0), .int (iZ 0)])) := by rw [ew45]; exact fU_k (fw_ne h43 h41 (ne_rr (by decide))) h43
  have h49 : w45 q22 = some (aZ g.2.1 8 (fun _ => 0)) := by rw [ew45]; exact fU_k (fw_ne h44 h41 ne_lr) h44
  refine lv_aload_n hx hb d_Ta_init_41 rfl (lv_at hl 0 rfl) ?_
  refine lv_iload hx hb d_Ta_init_42 (lv_at hl 4 rfl) ?_
  refine fw_putF (ci := 3) (v := .int (iZ pri)) (ty := .int) (C := rTa) (T := fTa) (N := 8) hx hb hts iTa yTa_t yTa_ok yTa_nm hown hK hF h46 rfl 3 (by decide) (hts _ t_198) (fun _ h9 => h9) rfl hin rfl (by decide +kernel) rfl rfl (Nat.le_of_ble_eq_true rfl) d_Ta_init_44 (fun H locs hF => ?_)
  obtain ⟨w50, ew50⟩ : ∃ zw : fw, zw = fU w45 a (.inr (3, [.int (iZ per), .int (iZ cst), .int (iZ ddl), .int (iZ pri), .int (bZ false), .ref q1, .ref q11, .int (iZ 0)])) := ⟨_, rfl⟩
  have hF := fW_to ew50 hF
  have h51 : w50 a = some (.inr (3, [.int (iZ per), .int (iZ cst), .int (iZ ddl), .int (iZ pri), .int (bZ false), .ref q1, .ref q11, .int (iZ 0)])) := by rw [ew50]; exact fU_s _ _ _
  have h52 : w50 q1 = some (.inr (6, [.int (iZ 0), .ref g.2.2.2, .int (iZ 0)])) := by rw [ew50]; exact fU_k (fw_ne h47 h46 (ne_rr (by decide))) h47
  have h53 : w50 q11 = some (.inr (1, [.ref q22, .int (iZ 0), .int (iZ 0), .int (iZ 0), .int (iZ 0), .int (iZ 0), .int (iZ 0), .int (iZ 0)])) := by rw [ew50]; exact fU_k (fw_ne h48 h46 (ne_rr (by decide))) h48
  have h54 : w50 q22 = some (aZ g.2.1 8 (fun _ => 0)) := by rw [ew50]; exact fU_k (fw_ne h49 h46 ne_lr) h49
  refine lv_aload_n hx hb d_Ta_init_47 rfl (lv_at hl 0 rfl) ?_
  refine lv_iload hx hb d_Ta_init_48 (lv_at hl 5 rfl) ?_
  refine lv_iconst (v := iZ (-1)) hx hb d_Ta_init_50 rfl ?_
  refine zz_icmp_ne (tgt := 58) hx hb d_Ta_init_51 (by decide) ⟨by omega, by omega⟩ ⟨by omega, by omega⟩ (fun c51 => ?_) (fun c51 => ?_)
  · refine lv_iconst (v := iZ 0) hx hb d_Ta_init_58 rfl ?_
    refine fw_putF (ci := 3) (v := .int (bZ false)) (ty := .boolean) (C := rTa) (T := fTa) (N := 8) hx hb hts iTa yTa_t yTa_ok yTa_nm hown hK hF h51 rfl 4 (by decide) (hts _ t_200) (fun _ h9 => h9) rfl hin rfl (by decide +kernel) (bZ_nar _) (bZ_fit _) (Nat.le_of_ble_eq_true rfl) d_Ta_init_59 (fun H locs hF => ?_)
    obtain ⟨w55, ew55⟩ : ∃ zw : fw, zw = fU w50 a (.inr (3, [.int (iZ per), .int (iZ cst), .int (iZ ddl), .int (iZ pri), .int (bZ false), .ref q1, .ref q11, .int (iZ 0)])) := ⟨_, rfl⟩
    have hF := fW_to ew55 hF
    have h56 : w55 a = some (.inr (3, [.int (iZ per), .int (iZ cst), .int (iZ ddl), .int (iZ pri), .int (bZ false), .ref q1, .ref q11, .int (iZ 0)])) := by rw [ew55]; exact fU_s _ _ _
    have h57 : w55 q1 = some (.inr (6, [.int (iZ 0), .ref g.2.2.2, .int (iZ 0)])) := by rw [ew55]; exact fU_k (fw_ne h52 h51 (ne_rr (by decide))) h52
    have h58 : w55 q11 = some (.inr (1, [.ref q22, .int (iZ 0), .int (iZ 0), .int (iZ 0), .int (iZ 0), .int (iZ 0), .int (iZ 0), .int (iZ 0)])) := by rw [ew55]; exact fU_k (fw_ne h53 h51 (ne_rr (by decide))) h53
    have h59 : w55 q22 = some (aZ g.2.1 8 (fun _ => 0)) := by rw [ew55]; exact fU_k (fw_ne h54 h51 ne_lr) h54
    refine lv_aload_n hx hb d_Ta_init_62 rfl (lv_at hl 0 rfl) ?_
    refine lv_iload hx hb d_Ta_init_63 (lv_at hl 5 rfl) ?_
    refine fw_put (ci := 3) (v := .int (iZ of)) (ty := .int) (C := rTa) (T := fTa) (N := 8) hx hb hts iTa yTa_t yTa_ok yTa_nm hown hK hF h56 rfl 7 (by decide) (hts _ t_206) (fun _ h9 => h9) rfl (by decide +kernel) rfl rfl (Nat.le_of_ble_eq_true rfl) d_Ta_init_65 (fun H locs hF => ?_)
    obtain ⟨w60, ew60⟩ : ∃ zw : fw, zw = fU w55 a (.inr (3, [.int (iZ per), .int (iZ cst), .int (iZ ddl), .int (iZ pri), .int (bZ false), .ref q1, .ref q11, .int (iZ of)])) := ⟨_, rfl⟩
    have hF := fW_to ew60 hF
    have h61 : w60 a = some (.inr (3, [.int (iZ per), .int (iZ cst), .int (iZ ddl), .int (iZ pri), .int (bZ false), .ref q1, .ref q11, .int (iZ of)])) := by rw [ew60]; exact fU_s _ _ _
    have h62 : w60 q1 = some (.inr (6, [.int (iZ 0), .ref g.2.2.2, .int (iZ 0)])) := by rw [ew60]; exact fU_k (fw_ne h57 h56 (ne_rr (by decide))) h57
    have h63 : w60 q11 = some (.inr (1, [.ref q22, .int (iZ 0), .int (iZ 0), .int (iZ 0), .int (iZ 0), .int (iZ 0), .int (iZ 0), .int (iZ 0)])) := by rw [ew60]; exact fU_k (fw_ne h58 h56 (ne_rr (by decide))) h58
    have h64 : w60 q22 = some (aZ g.2.1 8 (fun _ => 0)) := by rw [ew60]; exact fU_k (fw_ne h59 h56 ne_lr) h59
    exact rw_vret hx hb hr hlocks d_Ta_init_68 (by omega) (by omega) hF ⟨q1, q11, q22, nq1, n19, n29, by rw [decide_eq_false c51]; exact h61, h62, h63, h64, (fun q x0 x1 x2 x3 => by rw [ew60, fU_n x0, ew55, fU_n x0, ew50, fU_n x0, ew45, fU_n x0, ew40, fU_n x0, ew35, fU_n x0, ew30, fU_n x0, j4 q x2 x3, ew12, fU_n x2, ew8, fU_n x0, k2 q x1, ew2, fU_n x1])⟩
  · refine lv_iconst (v := iZ 1) hx hb d_Ta_init_54 rfl ?_
    refine lv_goto (tgt := 59) hx hb d_Ta_init_55 (by decide) ?_
    refine fw_putF (ci := 3) (v := .int (bZ true)) (ty := .boolean) (C := rTa) (T := fTa) (N := 8) hx hb hts iTa yTa_t yTa_ok yTa_nm hown hK hF h51 rfl 4 (by decide) (hts _ t_200) (fun _ h9 => h9) rfl hin rfl (by decide +kernel) (bZ_nar _) (bZ_fit _) (Nat.le_of_ble_eq_true rfl) d_Ta_init_59 (fun H locs hF => ?_)
    obtain ⟨w65, ew65⟩ : ∃ zw : fw, zw = fU w50 a (.inr (3, [.int (iZ per), .int (iZ cst), .int (iZ ddl), .int (iZ pri), .int (bZ true), .ref q1, .ref q11, .int (iZ 0)])) := ⟨_, rfl⟩
    have hF := fW_to ew65 hF
    have h66 : w65 a = some (.inr (3, [.int (iZ per), .int (iZ cst), .int (iZ ddl), .int (iZ pri), .int (bZ true), .ref q1, .ref q11, .int (iZ 0)])) := by rw [ew65]; exact fU_s _ _ _
    have h67 : w65 q1 = some (.inr (6, [.int (iZ 0), .ref g.2.2.2, .int (iZ 0)])) := by rw [ew65]; exact fU_k (fw_ne h52 h51 (ne_rr (by decide))) h52
    have h68 : w65 q11 = some (.inr (1, [.ref q22, .int (iZ 0), .int (iZ 0), .int (iZ 0), .int (iZ 0), .int (iZ 0), .int (iZ 0), .int (iZ 0)])) := by rw [ew65]; exact fU_k (fw_ne h53 h51 (ne_rr (by decide))) h53
    have h69 : w65 q22 = some (aZ g.2.1 8 (fun _ => 0)) := by rw [ew65]; exact fU_k (fw_ne h54 h51 ne_lr) h54
    refine lv_aload_n hx hb d_Ta_init_62 rfl (lv_at hl 0 rfl) ?_
    refine lv_iload hx hb d_Ta_init_63 (lv_at hl 5 rfl) ?_
    refine fw_put (ci := 3) (v := .int (iZ of)) (ty := .int) (C := rTa) (T := fTa) (N := 8) hx hb hts iTa yTa_t yTa_ok yTa_nm hown hK hF h66 rfl 7 (by decide) (hts _ t_206) (fun _ h9 => h9) rfl (by decide +kernel) rfl rfl (Nat.le_of_ble_eq_true rfl) d_Ta_init_65 (fun H locs hF => ?_)
    obtain ⟨w70, ew70⟩ : ∃ zw : fw, zw = fU w65 a (.inr (3, [.int (iZ per), .int (iZ cst), .int (iZ ddl), .int (iZ pri), .int (bZ true), .ref q1, .ref q11, .int (iZ of)])) := ⟨_, rfl⟩
    have hF := fW_to ew70 hF
    have h71 : w70 a = some (.inr (3, [.int (iZ per), .int (iZ cst), .int (iZ ddl), .int (iZ pri), .int (bZ true), .ref q1, .ref q11, .int (iZ of)])) := by rw [ew70]; exact fU_s _ _ _
    have h72 : w70 q1 = some (.inr (6, [.int (iZ 0), .ref g.2.2.2, .int (iZ 0)])) := by rw [ew70]; exact fU_k (fw_ne h67 h66 (ne_rr (by decide))) h67
    have h73 : w70 q11 = some (.inr (1, [.ref q22, .int (iZ 0), .int (iZ 0), .int (iZ 0), .int (iZ 0), .int (iZ 0), .int (iZ 0), .int (iZ 0)])) := by rw [ew70]; exact fU_k (fw_ne h68 h66 (ne_rr (by decide))) h68
    have h74 : w70 q22 = some (aZ g.2.1 8 (fun _ => 0)) := by rw [ew70]; exact fU_k (fw_ne h69 h66 ne_lr) h69
    exact rw_vret hx hb hr hlocks d_Ta_init_68 (by omega) (by omega) hF ⟨q1, q11, q22, nq1, n19, n29, by rw [decide_eq_true c51]; exact h71, h72, h73, h74, (fun q x0 x1 x2 x3 => by rw [ew70, fU_n x0, ew65, fU_n x0, ew50, fU_n x0, ew45, fU_n x0, ew40, fU_n x0, ew35, fU_n x0, ew30, fU_n x0, j4 q x2 x3, ew12, fU_n x2, ew8, fU_n x0, k2 q x1, ew2, fU_n x1])⟩

set_option maxHeartbeats 4000000 in
set_option maxRecDepth 100000 in
theorem c_Ta_release (l : Launch) (g : GG) (w : fw) (sz : Nat) (t sl jq ra : Nat) (per cst ddl pri nxt : Int) (spo : Bool) (fr nd uf rl lr dl gr : Int) (rel : Nat → Int) (ht : w t = some (.inr (3, [.int (iZ per), .int (iZ cst), .int (iZ ddl), .int (iZ pri), .int (bZ spo), .ref sl, .ref jq, .int (iZ nxt)]))) (hjq : w jq = some (.inr (1, [.ref ra, .int (iZ fr), .int (iZ nd), .int (iZ uf), .int (iZ rl), .int (iZ lr), .int (iZ dl), .int (iZ gr)]))) (hra : w ra = some (aZ g.2.1 8 rel)) (hf : 0 ≤ fr ∧ fr < 8) (hn : 0 ≤ nd ∧ nd ≤ 8) : RWv l y_Ta_releasePeriodicJob w_Ta_releasePeriodicJob ({ frames := 1, cells := 0, slots := 0, locals := 21 }) g w sz [.ref t] 0 0 ((fun w1 => w1 t = some (.inr (3, [.int (iZ per), .int (iZ cst), .int (iZ ddl), .int (iZ pri), .int (bZ spo), .ref sl, .ref jq, .int (iZ (nxt + per))])) ∧ w1 jq = some (.inr (1, [.ref ra, .int (iZ fr), .int (iZ (nd + 1)), .int (iZ uf), .int (iZ (rl + 1)), .int (iZ nxt), .int (iZ dl), .int (iZ gr)])) ∧ w1 ra = some (aZ g.2.1 8 (va_up rel ((fr + nd) % 8).toNat nxt)) ∧ (∀ q, q ≠ t → q ≠ jq → q ≠ ra → w1 q = w q))) := by
  refine rw_go (by decide) rfl (Nat.le_of_ble_eq_true rfl) ?_
  intro p e s m below meth c hx hb hr hml hown hts hlocks hin hsz hK hT hA hF ls hl
  subst hsz
  have hown : s.vm.findClass rTa = some m.cls := hown
  have hl : lv_has ls 1 [(0, .ref t)] := hl
  refine lv_aload_n hx hb d_Ta_releasePeriodicJob_0 rfl (lv_at hl 0 rfl) ?_
  refine fw_get (ci := 3) (v := .ref jq) (C := rTa) (T := fTa) (N := 8) hx hb hts iTa hown hK hF.1 ht rfl 6 (by decide) (hts _ t_204) (fun _ h9 => h9) rfl d_Ta_releasePeriodicJob_1 ?_
  refine lv_aload_n hx hb d_Ta_releasePeriodicJob_4 rfl (lv_at hl 0 rfl) ?_
  refine fw_get (ci := 3) (v := .int (iZ nxt)) (C := rTa) (T := fTa) (N := 8) hx hb hts iTa hown hK hF.1 ht rfl 7 (by decide) (hts _ t_206) (fun _ h9 => h9) rfl d_Ta_releasePeriodicJob_5 ?_
  refine fw_callv (va_runVN (As := [.int (iZ nxt)]) (rest := []) ⟨hx, hb, hml, hown, hts⟩ (c_Jq_release l g w s.heap.size jq ra fr nd uf rl lr dl gr rel nxt hjq hra hf hn) ⟨va_cnB 1 hts (gdT k_Jq_release) rfl rfl rfl (hK.2.1 _ n_388) (hts _ t_52) (by decide +kernel) ⟨Nat.le_of_ble_eq_true rfl, Nat.le_of_ble_eq_true rfl⟩, hts _ t_366, hts _ t_9⟩ ⟨rwP_blind, fw_recv hK hF.1 hjq rfl, rwP_pre hK hT hA hF⟩ rfl rfl hl.1 rfl (lv_room (Nat.le_of_ble_eq_true rfl)) d_Ta_releasePeriodicJob_8 ⟨by decide, by decide⟩) hF hA (fun w1 H locs hp2 hz hF => ?_)
  obtain ⟨k1, k2, k3⟩ := hp2
  have h3 : w1 t = some (.inr (3, [.int (iZ per), .int (iZ cst), .int (iZ ddl), .int (iZ pri), .int (bZ spo), .ref sl, .ref jq, .int (iZ nxt)])) := (k3 t (fw_ne ht hjq (ne_rr (by decide))) (fw_ne ht hra ne_rl)).trans ht
  refine lv_aload_n hx hb d_Ta_releasePeriodicJob_11 rfl (lv_at hl 0 rfl) ?_
  refine lv_dup hx hb d_Ta_releasePeriodicJob_12 rfl ?_
  refine fw_get (ci := 3) (v := .int (iZ nxt)) (C := rTa) (T := fTa) (N := 8) hx hb hts iTa hown hK hF.1 h3 rfl 7 (by decide) (hts _ t_206) (fun _ h9 => h9) rfl d_Ta_releasePeriodicJob_13 ?_
  refine lv_aload_n hx hb d_Ta_releasePeriodicJob_16 rfl (lv_at hl 0 rfl) ?_
  refine fw_get (ci := 3) (v := .int (iZ per)) (C := rTa) (T := fTa) (N := 8) hx hb hts iTa hown hK hF.1 h3 rfl 0 (by decide) (hts _ t_192) (fun _ h9 => h9) rfl d_Ta_releasePeriodicJob_17 ?_
  refine zz_iadd hx hb d_Ta_releasePeriodicJob_20 ?_
  refine fw_put (ci := 3) (v := .int (iZ (nxt + per))) (ty := .int) (C := rTa) (T := fTa) (N := 8) hx hb hts iTa yTa_t yTa_ok yTa_nm hown hK hF h3 rfl 7 (by decide) (hts _ t_206) (fun _ h9 => h9) rfl (by decide +kernel) rfl rfl (Nat.le_of_ble_eq_true rfl) d_Ta_releasePeriodicJob_21 (fun H locs hF => ?_)
  obtain ⟨w4, ew4⟩ : ∃ zw : fw, zw = fU w1 t (.inr (3, [.int (iZ per), .int (iZ cst), .int (iZ ddl), .int (iZ pri), .int (bZ spo), .ref sl, .ref jq, .int (iZ (nxt + per))])) := ⟨_, rfl⟩
  have hF := fW_to ew4 hF
  have h5 : w4 t = some (.inr (3, [.int (iZ per), .int (iZ cst), .int (iZ ddl), .int (iZ pri), .int (bZ spo), .ref sl, .ref jq, .int (iZ (nxt + per))])) := by rw [ew4]; exact fU_s _ _ _
  have h6 : w4 jq = some (.inr (1, [.ref ra, .int (iZ fr), .int (iZ (nd + 1)), .int (iZ uf), .int (iZ (rl + 1)), .int (iZ nxt), .int (iZ dl), .int (iZ gr)])) := by rw [ew4]; exact fU_k (fw_ne k1 h3 (ne_rr (by decide))) k1
  have h7 : w4 ra = some (aZ g.2.1 8 (va_up rel ((fr + nd) % 8).toNat nxt)) := by rw [ew4]; exact fU_k (fw_ne k2 h3 ne_lr) k2
  exact rw_vret hx hb hr hlocks d_Ta_releasePeriodicJob_24 (by omega) (by omega) hF ⟨h5, h6, h7, (fun q x0 x1 x2 => by rw [ew4, fU_n x0, k3 q x1 x2])⟩

set_option maxHeartbeats 4000000 in
set_option maxRecDepth 100000 in
theorem c_Ta_unit (l : Launch) (g : GG) (w : fw) (sz : Nat) (t sl jq ra : Nat) (per cst ddl pri nxt : Int) (spo : Bool) (fr nd uf rl lr dl gr : Int) (rel : Nat → Int) (ti : Int) (ht : w t = some (.inr (3, [.int (iZ per), .int (iZ cst), .int (iZ ddl), .int (iZ pri), .int (bZ spo), .ref sl, .ref jq, .int (iZ nxt)]))) (hjq : w jq = some (.inr (1, [.ref ra, .int (iZ fr), .int (iZ nd), .int (iZ uf), .int (iZ rl), .int (iZ lr), .int (iZ dl), .int (iZ gr)]))) (hra : w ra = some (aZ g.2.1 8 rel)) (hf : 0 ≤ fr ∧ fr < 8) (hn : 0 ≤ nd ∧ nd ≤ 8) (huf : 0 ≤ uf ∧ uf ≤ 60) (hcs : 1 ≤ cst ∧ cst ≤ 60) (hdd : 1 ≤ ddl ∧ ddl ≤ 60) (hgr : 0 ≤ gr ∧ gr ≤ 2000000) (hti : 0 ≤ ti ∧ ti ≤ 2000000) (hrr : 0 ≤ rel fr.toNat ∧ rel fr.toNat ≤ 2000000) : RWv l y_Ta_doUnit w_Ta_doUnit ({ frames := 2, cells := 0, slots := 0, locals := 43 }) g w sz [.ref t, .int (iZ ti)] 0 0 ((fun w1 => w1 jq = some (.inr (1, [.ref ra, .int (iZ (if uf + 1 < cst then fr else (fr + 1) % 8)), .int (iZ (if uf + 1 < cst then nd else nd - 1)), .int (iZ (if uf + 1 < cst then uf + 1 else 0)), .int (iZ rl), .int (iZ lr), .int (iZ (if uf + 1 < cst then dl else if ddl < (ti - rel fr.toNat) then dl + 1 else dl)), .int (iZ (if uf + 1 < cst then gr else max gr (ti - rel fr.toNat)))])) ∧ w1 ra = some (aZ g.2.1 8 rel) ∧ (∀ q, q ≠ jq → q ≠ ra → w1 q = w q))) := by
  refine rw_go (by decide) rfl (Nat.le_of_ble_eq_true rfl) ?_
  intro p e s m below meth c hx hb hr hml hown hts hlocks hin hsz hK hT hA hF ls hl
  subst hsz
  have hown : s.vm.findClass rTa = some m.cls := hown
  have hl : lv_has ls 2 [(0, .ref t), (1, .int (iZ ti))] := hl
  refine lv_aload_n hx hb d_Ta_doUnit_0 rfl (lv_at hl 0 rfl) ?_
  refine fw_get (ci := 3) (v := .ref jq) (C := rTa) (T := fTa) (N := 8) hx hb hts iTa hown hK hF.1 ht rfl 6 (by decide) (hts _ t_204) (fun _ h9 => h9) rfl d_Ta_doUnit_1 ?_
  refine lv_dup hx hb d_Ta_doUnit_4 rfl ?_
  refine fw_getN (ci := 1) (v := .int (iZ uf)) (C := rJq) (T := fJq) (N := 8) (index := 49) (ref := "CeilingScheduler$JobQueue") (host := "CeilingScheduler") hx hb hts iJq hown hK hF.1 hjq rfl 3 (by decide) n_166 (fun _ h9 => h9) rfl d_Ta_doUnit_5 ?_
  refine lv_iconst (v := iZ 1) hx hb d_Ta_doUnit_8 rfl ?_
  refine zz_iadd hx hb d_Ta_doUnit_9 ?_
  refine fw_putN (ci := 1) (v := .int (iZ (uf + 1))) (ty := .int) (C := rJq) (T := fJq) (N := 8) (index := 49) (ref := "CeilingScheduler$JobQueue") (host := "CeilingScheduler") hx hb hts iJq yJq_t yJq_ok yJq_nm hown hK hF hjq rfl 3 (by decide) n_166 (fun _ h9 => h9) rfl (by decide +kernel) rfl rfl (Nat.le_of_ble_eq_true rfl) d_Ta_doUnit_10 (fun H locs hF => ?_)
  obtain ⟨w1, ew1⟩ : ∃ zw : fw, zw = fU w jq (.inr (1, [.ref ra, .int (iZ fr), .int (iZ nd), .int (iZ (uf + 1)), .int (iZ rl), .int (iZ lr), .int (iZ dl), .int (iZ gr)])) := ⟨_, rfl⟩
  have hF := fW_to ew1 hF
  have h2 : w1 t = some (.inr (3, [.int (iZ per), .int (iZ cst), .int (iZ ddl), .int (iZ pri), .int (bZ spo), .ref sl, .ref jq, .int (iZ nxt)])) := by rw [ew1]; exact fU_k (fw_ne ht hjq (ne_rr (by decide))) ht
  have h3 : w1 jq = some (.inr (1, [.ref ra, .int (iZ fr), .int (iZ nd), .int (iZ (uf + 1)), .int (iZ rl), .int (iZ lr), .int (iZ dl), .int (iZ gr)])) := by rw [ew1]; exact fU_s _ _ _
  have h4 : w1 ra = some (aZ g.2.1 8 rel) := by rw [ew1]; exact fU_k (fw_ne hra hjq ne_lr) hra
  refine lv_aload_n hx hb d_Ta_doUnit_13 rfl (lv_at hl 0 rfl) ?_
  refine fw_get (ci := 3) (v := .ref jq) (C := rTa) (T := fTa) (N := 8) hx hb hts iTa hown hK hF.1 h2 rfl 6 (by decide) (hts _ t_204) (fun _ h9 => h9) rfl d_Ta_doUnit_14 ?_
  refine fw_getN (ci := 1) (v := .int (iZ (uf + 1))) (C := rJq) (T := fJq) (N := 8) (index := 49) (ref := "CeilingScheduler$JobQueue") (host := "CeilingScheduler") hx hb hts iJq hown hK hF.1 h3 rfl 3 (by decide) n_166 (fun _ h9 => h9) rfl d_Ta_doUnit_17 ?_
  refine lv_aload_n hx hb d_Ta_doUnit_20 rfl (lv_at hl 0 rfl) ?_
  refine fw_get (ci := 3) (v := .int (iZ cst)) (C := rTa) (T := fTa) (N := 8) hx hb hts iTa hown hK hF.1 h2 rfl 1 (by decide) (hts _ t_194) (fun _ h9 => h9) rfl d_Ta_doUnit_21 ?_
  refine zz_icmp_lt (tgt := 39) hx hb d_Ta_doUnit_24 (by decide) ⟨by omega, by omega⟩ ⟨by omega, by omega⟩ (fun c24 => ?_) (fun c24 => ?_)
  · exact rw_vret hx hb hr hlocks d_Ta_doUnit_39 (by omega) (by omega) hF ⟨(by rw [if_pos c24]; rw [if_pos c24]; rw [if_pos c24]; rw [if_pos c24]; rw [if_pos c24]; exact h3), h4, (fun q x0 x1 => by rw [ew1, fU_n x0])⟩
  · refine lv_aload_n hx hb d_Ta_doUnit_27 rfl (lv_at hl 0 rfl) ?_
    refine fw_get (ci := 3) (v := .ref jq) (C := rTa) (T := fTa) (N := 8) hx hb hts iTa hown hK hF.1 h2 rfl 6 (by decide) (hts _ t_204) (fun _ h9 => h9) rfl d_Ta_doUnit_28 ?_
    refine lv_iload_n hx hb d_Ta_doUnit_31 rfl (lv_at hl 1 rfl) ?_
    refine lv_aload_n hx hb d_Ta_doUnit_32 rfl (lv_at hl 0 rfl) ?_
    refine fw_get (ci := 3) (v := .int (iZ ddl)) (C := rTa) (T := fTa) (N := 8) hx hb hts iTa hown hK hF.1 h2 rfl 2 (by decide) (hts _ t_196) (fun _ h9 => h9) rfl d_Ta_doUnit_33 ?_
    refine fw_callv (va_runVN (As := [.int (iZ ti), .int (iZ ddl)]) (rest := []) ⟨hx, hb, hml, hown, hts⟩ (c_Jq_finish l g w1 H.size jq ra fr nd (uf + 1) rl lr dl gr rel ti ddl h3 h4 hf hn ⟨by omega, by omega⟩ ⟨by omega, by omega⟩ ⟨by omega, by omega⟩) ⟨va_cnB 2 hts (gdT k_Jq_finishFront) rfl rfl rfl (hK.2.1 _ n_428) (hts _ t_52) (by decide +kernel) ⟨Nat.le_of_ble_eq_true rfl, Nat.le_of_ble_eq_true rfl⟩, hts _ t_430, hts _ t_23⟩ ⟨rwP_blind, fw_recv hK hF.1 h3 rfl, rwP_pre hK hT hA hF⟩ rfl rfl hl.1 rfl (lv_room (Nat.le_of_ble_eq_true rfl)) d_Ta_doUnit_36 ⟨by decide, by decide⟩) hF hA (fun w5 H locs hp6 hz hF => ?_)
    obtain ⟨k1, k2, k3⟩ := hp6
    have h7 : w5 t = some (.inr (3, [.int (iZ per), .int (iZ cst), .int (iZ ddl), .int (iZ pri), .int (bZ spo), .ref sl, .ref jq, .int (iZ nxt)])) := (k3 t (fw_ne h2 h3 (ne_rr (by decide))) (fw_ne h2 h4 ne_rl)).trans h2
    exact rw_vret hx hb hr hlocks d_Ta_doUnit_39 (by omega) (by omega) hF ⟨(by rw [if_neg (by omega : ¬ uf + 1 < cst)]; rw [if_neg (by omega : ¬ uf + 1 < cst)]; rw [if_neg (by omega : ¬ uf + 1 < cst)]; rw [if_neg (by omega : ¬ uf + 1 < cst)]; rw [if_neg (by omega : ¬ uf + 1 < cst)]; exact k1), k2, (fun q x0 x1 => by rw [k3 q x0 x1, ew1, fU_n x0])⟩
