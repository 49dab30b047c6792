set_option maxHeartbeats 4000000 in
set_option maxRecDepth 100000 in
theorem c_Se_init (l : Launch) (g : GG) (w : fw) (sz : Nat) (a : Nat) (x y z : Int) (ha : w a = some (.inr (2, [.int (iZ 0), .int (iZ 0), .int (iZ 0)]))) : RWv l y_Se_init w_Se_init ({ frames := 1, cells := 0, slots := 0, locals := 12 }) g w sz [.ref a, .int (iZ x), .int (iZ y), .int (iZ z)] 0 0 ((fun w1 => w1 a = some (.inr (2, [.int (iZ x), .int (iZ y), .int (iZ z)])) ∧ (∀ q, q ≠ a → w1 q = w q))) := by
  refine rw_go (by decide) rfl (Nat.le_of_ble_eq_true rfl) ?_
  intro p e s m below meth c hx hb hr hml hown hts hlocks hin hsz hK hT hA hF ls hl
  subst hsz
  have hown : s.vm.findClass rSe = some m.cls := hown
  have hl : lv_has ls 4 [(0, .ref a), (1, .int (iZ x)), (2, .int (iZ y)), (3, .int (iZ z))] := hl
  refine lv_aload_n hx hb d_Se_init_0 rfl (lv_at hl 0 rfl) ?_
  refine W.objInit hx hb hown (hts _ t_328) (hts _ t_66) (hts _ k_Oj_init) rfl (by rw [hml]; exact hl.1) rfl d_Se_init_1 (Nat.le_of_ble_eq_true rfl) (Nat.le_of_ble_eq_true rfl) ?_
  refine W.eq (g2 := F0 m 4 ls []) rfl ?_
  refine lv_aload_n hx hb d_Se_init_4 rfl (lv_at hl 0 rfl) ?_
  refine lv_iload_n hx hb d_Se_init_5 rfl (lv_at hl 1 rfl) ?_
  refine fw_putF (ci := 2) (v := .int (iZ x)) (ty := .int) (C := rSe) (T := fSe) (N := 3) hx hb hts iSe ySe_t ySe_ok ySe_nm hown hK hF ha rfl 0 (by decide) (hts _ t_329) (fun _ h9 => h9) rfl hin rfl (by decide +kernel) rfl rfl (Nat.le_of_ble_eq_true rfl) d_Se_init_6 (fun H locs hF => ?_)
  obtain ⟨w1, ew1⟩ : ∃ zw : fw, zw = fU w a (.inr (2, [.int (iZ x), .int (iZ 0), .int (iZ 0)])) := ⟨_, rfl⟩
  have hF := fW_to ew1 hF
  have h2 : w1 a = some (.inr (2, [.int (iZ x), .int (iZ 0), .int (iZ 0)])) := by rw [ew1]; exact fU_s _ _ _
  refine lv_aload_n hx hb d_Se_init_9 rfl (lv_at hl 0 rfl) ?_
  refine lv_iload_n hx hb d_Se_init_10 rfl (lv_at hl 2 rfl) ?_
  refine fw_putF (ci := 2) (v := .int (iZ y)) (ty := .int) (C := rSe) (T := fSe) (N := 3) hx hb hts iSe ySe_t ySe_ok ySe_nm hown hK hF h2 rfl 1 (by decide) (hts _ t_332) (fun _ h9 => h9) rfl hin rfl (by decide +kernel) rfl rfl (Nat.le_of_ble_eq_true rfl) d_Se_init_11 (fun H locs hF => ?_)
  obtain ⟨w3, ew3⟩ : ∃ zw : fw, zw = fU w1 a (.inr (2, [.int (iZ x), .int (iZ y), .int (iZ 0)])) := ⟨_, rfl⟩
  have hF := fW_to ew3 hF
  have h4 : w3 a = some (.inr (2, [.int (iZ x), .int (iZ y), .int (iZ 0)])) := by rw [ew3]; exact fU_s _ _ _
  refine lv_aload_n hx hb d_Se_init_14 rfl (lv_at hl 0 rfl) ?_
  refine lv_iload_n hx hb d_Se_init_15 rfl (lv_at hl 3 rfl) ?_
  refine fw_putF (ci := 2) (v := .int (iZ z)) (ty := .int) (C := rSe) (T := fSe) (N := 3) hx hb hts iSe ySe_t ySe_ok ySe_nm hown hK hF h4 rfl 2 (by decide) (hts _ t_334) (fun _ h9 => h9) rfl hin rfl (by decide +kernel) rfl rfl (Nat.le_of_ble_eq_true rfl) d_Se_init_16 (fun H locs hF => ?_)
  obtain ⟨w5, ew5⟩ : ∃ zw : fw, zw = fU w3 a (.inr (2, [.int (iZ x), .int (iZ y), .int (iZ z)])) := ⟨_, rfl⟩
  have hF := fW_to ew5 hF
  have h6 : w5 a = some (.inr (2, [.int (iZ x), .int (iZ y), .int (iZ z)])) := by rw [ew5]; exact fU_s _ _ _
  exact rw_vret hx hb hr hlocks d_Se_init_19 (by omega) (by omega) hF ⟨h6, (fun q x0 => by rw [ew5, fU_n x0, ew3, fU_n x0, ew1, fU_n x0])⟩

set_option maxHeartbeats 4000000 in
set_option maxRecDepth 100000 in
theorem c_Jq_init (l : Launch) (g : GG) (w : fw) (sz : Nat) (a : Nat) (ha : w a = some (.inr (1, [.null, .int (iZ 0), .int (iZ 0), .int (iZ 0), .int (iZ 0), .int (iZ 0), .int (iZ 0), .int (iZ 0)]))) : RWv l y_Jq_init w_Jq_init ({ frames := 1, cells := 1, slots := 8, locals := 12 }) g w sz [.ref a] 1 8 ((fun w1 => ∃ q0 : Nat, w q0 = none ∧ w1 a = some (.inr (1, [.ref q0, .int (iZ 0), .int (iZ 0), .int (iZ 0), .int (iZ 0), .int (iZ 0), .int (iZ 0), .int (iZ 0)])) ∧ w1 q0 = some (aZ g.2.1 8 (fun _ => 0)) ∧ (∀ q, q ≠ a → q ≠ q0 → w1 q = w q))) := by
  refine rw_go (by decide) rfl (Nat.le_of_ble_eq_true rfl) ?_
  intro p e s m below meth c hx hb hr hml hown hts hlocks hin hsz hK hT hA hF ls hl
  subst hsz
  have hown : s.vm.findClass rJq = some m.cls := hown
  have hl : lv_has ls 1 [(0, .ref a)] := hl
  refine lv_aload_n hx hb d_Jq_init_0 rfl (lv_at hl 0 rfl) ?_
  refine W.objInit hx hb hown (hts _ t_161) (hts _ t_66) (hts _ k_Oj_init) rfl (by rw [hml]; exact hl.1) rfl d_Jq_init_1 (Nat.le_of_ble_eq_true rfl) (Nat.le_of_ble_eq_true rfl) ?_
  refine W.eq (g2 := F0 m 4 ls []) rfl ?_
  refine lv_aload_n hx hb d_Jq_init_4 rfl (lv_at hl 0 rfl) ?_
  refine lv_bipush (v := iZ 8) hx hb d_Jq_init_5 (by decide) ?_
  refine fw_newa (N := 8) hx hb (hts _ t_123) hK hF hA rfl (by decide) (Nat.le_of_ble_eq_true rfl) (Nat.le_of_ble_eq_true rfl) d_Jq_init_7 (fun q1 H nq1 hF => ?_)
  obtain ⟨w2, ew2⟩ : ∃ zw : fw, zw = fU w q1 (aZ g.2.1 8 (fun _ => 0)) := ⟨_, rfl⟩
  have hF := fW_to ew2 hF
  have h3 : w2 a = some (.inr (1, [.null, .int (iZ 0), .int (iZ 0), .int (iZ 0), .int (iZ 0), .int (iZ 0), .int (iZ 0), .int (iZ 0)])) := by rw [ew2]; exact fU_k (fw_new_ne ha nq1) ha
  have h4 : w2 q1 = some (aZ g.2.1 8 (fun _ => 0)) := by rw [ew2]; exact fU_s _ _ _
  refine fw_putF (ci := 1) (v := .ref q1) (ty := .array .int) (C := rJq) (T := fJq) (N := 8) hx hb hts iJq yJq_t yJq_ok yJq_nm hown hK hF h3 rfl 0 (by decide) (hts _ t_162) (fun _ h9 => h9) rfl hin rfl (by decide +kernel) rfl rfl (Nat.le_of_ble_eq_true rfl) d_Jq_init_9 (fun H locs hF => ?_)
  obtain ⟨w5, ew5⟩ : ∃ zw : fw, zw = fU w2 a (.inr (1, [.ref q1, .int (iZ 0), .int (iZ 0), .int (iZ 0), .int (iZ 0), .int (iZ 0), .int (iZ 0), .int (iZ 0)])) := ⟨_, rfl⟩
  have hF := fW_to ew5 hF
  have h6 : w5 a = some (.inr (1, [.ref q1, .int (iZ 0), .int (iZ 0), .int (iZ 0), .int (iZ 0), .int (iZ 0), .int (iZ 0), .int (iZ 0)])) := by rw [ew5]; exact fU_s _ _ _
  have h7 : w5 q1 = some (aZ g.2.1 8 (fun _ => 0)) := by rw [ew5]; exact fU_k (fw_ne h4 h3 ne_lr) h4
  exact rw_vret hx hb hr hlocks d_Jq_init_12 (by omega) (by omega) hF ⟨q1, nq1, h6, h7, (fun q x0 x1 => by rw [ew5, fU_n x0, ew2, fU_n x1])⟩

set_option maxHeartbeats 4000000 in
set_option maxRecDepth 100000 in
theorem c_Hi_init (l : Launch) (g : GG) (w : fw) (sz : Nat) (a : Nat) (ha : w a = some (.inr (0, [.null, .int (iZ 0), .int (iZ 0), .int (iZ 0), .int (iZ 0), .int (iZ 0)]))) : RWv l y_Hi_init w_Hi_init ({ frames := 1, cells := 1, slots := 64, locals := 12 }) g w sz [.ref a] 1 64 ((fun w1 => ∃ q0 : Nat, w q0 = none ∧ w1 a = some (.inr (0, [.ref q0, .int (iZ 0), .int (iZ 0), .int (iZ 0), .int (iZ (-3)), .int (iZ (-3))])) ∧ w1 q0 = some (aZ g.2.1 64 (fun _ => 0)) ∧ (∀ q, q ≠ a → q ≠ q0 → w1 q = w q))) := by
  refine rw_go (by decide) rfl (Nat.le_of_ble_eq_true rfl) ?_
  intro p e s m below meth c hx hb hr hml hown hts hlocks hin hsz hK hT hA hF ls hl
  subst hsz
  have hown : s.vm.findClass rHi = some m.cls := hown
  have hl : lv_has ls 1 [(0, .ref a)] := hl
  refine lv_aload_n hx hb d_Hi_init_0 rfl (lv_at hl 0 rfl) ?_
  refine W.objInit hx hb hown (hts _ t_99) (hts _ t_66) (hts _ k_Oj_init) rfl (by rw [hml]; exact hl.1) rfl d_Hi_init_1 (Nat.le_of_ble_eq_true rfl) (Nat.le_of_ble_eq_true rfl) ?_
  refine W.eq (g2 := F0 m 4 ls []) rfl ?_
  refine lv_aload_n hx hb d_Hi_init_4 rfl (lv_at hl 0 rfl) ?_
  refine lv_bipush (v := iZ 64) hx hb d_Hi_init_5 (by decide) ?_
  refine fw_newa (N := 64) hx hb (hts _ t_123) hK hF hA rfl (by decide) (Nat.le_of_ble_eq_true rfl) (Nat.le_of_ble_eq_true rfl) d_Hi_init_7 (fun q1 H nq1 hF => ?_)
  obtain ⟨w2, ew2⟩ : ∃ zw : fw, zw = fU w q1 (aZ g.2.1 64 (fun _ => 0)) := ⟨_, rfl⟩
  have hF := fW_to ew2 hF
  have h3 : w2 a = some (.inr (0, [.null, .int (iZ 0), .int (iZ 0), .int (iZ 0), .int (iZ 0), .int (iZ 0)])) := by rw [ew2]; exact fU_k (fw_new_ne ha nq1) ha
  have h4 : w2 q1 = some (aZ g.2.1 64 (fun _ => 0)) := by rw [ew2]; exact fU_s _ _ _
  refine fw_putF (ci := 0) (v := .ref q1) (ty := .array .int) (C := rHi) (T := fHi) (N := 6) hx hb hts iHi yHi_t yHi_ok yHi_nm hown hK hF h3 rfl 0 (by decide) (hts _ t_100) (fun _ h9 => h9) rfl hin rfl (by decide +kernel) rfl rfl (Nat.le_of_ble_eq_true rfl) d_Hi_init_9 (fun H locs hF => ?_)
  obtain ⟨w5, ew5⟩ : ∃ zw : fw, zw = fU w2 a (.inr (0, [.ref q1, .int (iZ 0), .int (iZ 0), .int (iZ 0), .int (iZ 0), .int (iZ 0)])) := ⟨_, rfl⟩
  have hF := fW_to ew5 hF
  have h6 : w5 a = some (.inr (0, [.ref q1, .int (iZ 0), .int (iZ 0), .int (iZ 0), .int (iZ 0), .int (iZ 0)])) := by rw [ew5]; exact fU_s _ _ _
  have h7 : w5 q1 = some (aZ g.2.1 64 (fun _ => 0)) := by rw [ew5]; exact fU_k (fw_ne h4 h3 ne_lr) h4
  refine lv_aload_n hx hb d_Hi_init_12 rfl (lv_at hl 0 rfl) ?_
  refine lv_bipush (v := iZ (-3)) hx hb d_Hi_init_13 (by decide) ?_
  refine fw_put (ci := 0) (v := .int (iZ (-3))) (ty := .int) (C := rHi) (T := fHi) (N := 6) hx hb hts iHi yHi_t yHi_ok yHi_nm hown hK hF h6 rfl 4 (by decide) (hts _ t_107) (fun _ h9 => h9) rfl (by decide +kernel) rfl rfl (Nat.le_of_ble_eq_true rfl) d_Hi_init_15 (fun H locs hF => ?_)
  obtain ⟨w8, ew8⟩ : ∃ zw : fw, zw = fU w5 a (.inr (0, [.ref q1, .int (iZ 0), .int (iZ 0), .int (iZ 0), .int (iZ (-3)), .int (iZ 0)])) := ⟨_, rfl⟩
  have hF := fW_to ew8 hF
  have h9 : w8 a = some (.inr (0, [.ref q1, .int (iZ 0), .int (iZ 0), .int (iZ 0), .int (iZ (-3)), .int (iZ 0)])) := by rw [ew8]; exact fU_s _ _ _
  have h10 : w8 q1 = some (aZ g.2.1 64 (fun _ => 0)) := by rw [ew8]; exact fU_k (fw_ne h7 h6 ne_lr) h7
  refine lv_aload_n hx hb d_Hi_init_18 rfl (lv_at hl 0 rfl) ?_
  refine lv_bipush (v := iZ (-3)) hx hb d_Hi_init_19 (by decide) ?_
  refine fw_put (ci := 0) (v := .int (iZ (-3))) (ty := .int) (C := rHi) (T := fHi) (N := 6) hx hb hts iHi yHi_t yHi_ok yHi_nm hown hK hF h9 rfl 5 (by decide) (hts _ t_109) (fun _ h9 => h9) rfl (by decide +kernel) rfl rfl (Nat.le_of_ble_eq_true rfl) d_Hi_init_21 (fun H locs hF => ?_)
  obtain ⟨w11, ew11⟩ : ∃ zw : fw, zw = fU w8 a (.inr (0, [.ref q1, .int (iZ 0), .int (iZ 0), .int (iZ 0), .int (iZ (-3)), .int (iZ (-3))])) := ⟨_, rfl⟩
  have hF := fW_to ew11 hF
  have h12 : w11 a = some (.inr (0, [.ref q1, .int (iZ 0), .int (iZ 0), .int (iZ 0), .int (iZ (-3)), .int (iZ (-3))])) := by rw [ew11]; exact fU_s _ _ _
  have h13 : w11 q1 = some (aZ g.2.1 64 (fun _ => 0)) := by rw [ew11]; exact fU_k (fw_ne h10 h9 ne_lr) h10
  exact rw_vret hx hb hr hlocks d_Hi_init_24 (by omega) (by omega) hF ⟨q1, nq1, h12, h13, (fun q x0 x1 => by rw [ew11, fU_n x0, ew8, fU_n x0, ew5, fU_n x0, ew2, fU_n x1])⟩

set_option maxHeartbeats 4000000 in
set_option maxRecDepth 100000 in
theorem c_Hi_pass (l : Launch) (g : GG) (w : fw) (sz : Nat) (a ta : Nat) (ti idl sw lr ln : Int) (tof : Nat → Int) (x : Int) (hh : w a = some (.inr (0, [.ref ta, .int (iZ ti), .int (iZ idl), .int (iZ sw), .int (iZ lr), .int (iZ ln)]))) (hta : w ta = some (aZ g.2.1 64 tof)) (hti : 0 ≤ ti ∧ ti ≤ 2000000) (hln : -3 ≤ ln ∧ ln ≤ 6) (hx0 : -3 ≤ x ∧ x ≤ 6) : RWv l y_Hi_pass w_Hi_pass ({ frames := 1, cells := 0, slots := 0, locals := 22 }) g w sz [.ref a, .int (iZ x)] 0 0 ((fun w1 => w1 a = some (.inr (0, [.ref ta, .int (iZ (ti + 1)), .int (iZ (if x = -3 then idl + 1 else idl)), .int (iZ (if x = -3 ∨ x = ln then sw else sw + 1)), .int (iZ x), .int (iZ (if x = -3 then ln else x))])) ∧ w1 ta = some (aZ g.2.1 64 (va_up tof (ti % 64).toNat x)) ∧ (∀ q, q ≠ a → q ≠ ta → w1 q = w q))) := by
  refine rw_go (by decide) rfl (Nat.le_of_ble_eq_true rfl) ?_
  intro p e s m below meth c hx hb hr hml hown hts hlocks hin hsz hK hT hA hF ls hl
  subst hsz
  have hown : s.vm.findClass rHi = some m.cls := hown
  have hl : lv_has ls 2 [(0, .ref a), (1, .int (iZ x))] := hl
  refine lv_aload_n hx hb d_Hi_pass_0 rfl (lv_at hl 0 rfl) ?_
  refine fw_get (ci := 0) (v := .ref ta) (C := rHi) (T := fHi) (N := 6) hx hb hts iHi hown hK hF.1 hh rfl 0 (by decide) (hts _ t_100) (fun _ h9 => h9) rfl d_Hi_pass_1 ?_
  refine lv_aload_n hx hb d_Hi_pass_4 rfl (lv_at hl 0 rfl) ?_
  refine fw_get (ci := 0) (v := .int (iZ ti)) (C := rHi) (T := fHi) (N := 6) hx hb hts iHi hown hK hF.1 hh rfl 1 (by decide) (hts _ t_101) (fun _ h9 => h9) rfl d_Hi_pass_5 ?_
  refine lv_bipush (v := iZ 64) hx hb d_Hi_pass_8 (by decide) ?_
  refine fw_ro (r := .int (iZ (ti % 64))) (va_runS (As := [.int (iZ ti), .int (iZ 64)]) (rest := [.ref ta]) ⟨hx, hb, hml, hown, hts⟩ (c_Ma_floor l g w ti 64 ⟨by omega, by omega⟩ ⟨by omega, by omega⟩) (va_cwS 2 hts (gdS k_Ma_floorMod t_421 t_422 t_54) rfl rfl rfl (by decide +kernel) ⟨Nat.le_of_ble_eq_true rfl, Nat.le_of_ble_eq_true rfl⟩) ⟨roP_blind, roP_pre hK hF.1⟩ rfl rfl hl.1 rfl (lv_room (Nat.le_of_ble_eq_true rfl)) d_Hi_pass_10 ⟨by decide, by decide⟩) ?_
  refine lv_iload_n hx hb d_Hi_pass_13 rfl (lv_at hl 1 rfl) ?_
  refine fw_iast (x := x) hx hb hK hF hta (by decide) (((ti % 64).toNat)) (by omega) (by omega) d_Hi_pass_14 (fun H locs hF => ?_)
  obtain ⟨w1, ew1⟩ : ∃ zw : fw, zw = fU w ta (aZ g.2.1 64 (va_up tof (((ti % 64).toNat)) x)) := ⟨_, rfl⟩
  have hF := fW_to ew1 hF
  have h2 : w1 a = some (.inr (0, [.ref ta, .int (iZ ti), .int (iZ idl), .int (iZ sw), .int (iZ lr), .int (iZ ln)])) := by rw [ew1]; exact fU_k (fw_ne hh hta ne_rl) hh
  have h3 : w1 ta = some (aZ g.2.1 64 (va_up tof (((ti % 64).toNat)) x)) := by rw [ew1]; exact fU_s _ _ _
  refine lv_aload_n hx hb d_Hi_pass_15 rfl (lv_at hl 0 rfl) ?_
  refine lv_dup hx hb d_Hi_pass_16 rfl ?_
  refine fw_get (ci := 0) (v := .int (iZ ti)) (C := rHi) (T := fHi) (N := 6) hx hb hts iHi hown hK hF.1 h2 rfl 1 (by decide) (hts _ t_101) (fun _ h9 => h9) rfl d_Hi_pass_17 ?_
  refine lv_iconst (v := iZ 1) hx hb d_Hi_pass_20 rfl ?_
  refine zz_iadd hx hb d_Hi_pass_21 ?_
  refine fw_put (ci := 0) (v := .int (iZ (ti + 1))) (ty := .int) (C := rHi) (T := fHi) (N := 6) hx hb hts iHi yHi_t yHi_ok yHi_nm hown hK hF h2 rfl 1 (by decide) (hts _ t_101) (fun _ h9 => h9) rfl (by decide +kernel) rfl rfl (Nat.le_of_ble_eq_true rfl) d_Hi_pass_22 (fun H locs hF => ?_)
  obtain ⟨w4, ew4⟩ : ∃ zw : fw, zw = fU w1 a (.inr (0, [.ref ta, .int (iZ (ti + 1)), .int (iZ idl), .int (iZ sw), .int (iZ lr), .int (iZ ln)])) := ⟨_, rfl⟩
  have hF := fW_to ew4 hF
  have h5 : w4 a = some (.inr (0, [.ref ta, .int (iZ (ti + 1)), .int (iZ idl), .int (iZ sw), .int (iZ lr), .int (iZ ln)])) := by rw [ew4]; exact fU_s _ _ _
  have h6 : w4 ta = some (aZ g.2.1 64 (va_up tof (((ti % 64).toNat)) x)) := by rw [ew4]; exact fU_k (fw_ne h3 h2 ne_lr) h3
  refine lv_aload_n hx hb d_Hi_pass_25 rfl (lv_at hl 0 rfl) ?_
  refine lv_iload_n hx hb d_Hi_pass_26 rfl (lv_at hl 1 rfl) ?_
  refine fw_put (ci := 0) (v := .int (iZ x)) (ty := .int) (C := rHi) (T := fHi) (N := 6) hx hb hts iHi yHi_t yHi_ok yHi_nm hown hK hF h5 rfl 4 (by decide) (hts _ t_107) (fun _ h9 => h9) rfl (by decide +kernel) rfl rfl (Nat.le_of_ble_eq_true rfl) d_Hi_pass_27 (fun H locs hF => ?_)
  obtain ⟨w7, ew7⟩ : ∃ zw : fw, zw = fU w4 a (.inr (0, [.ref ta, .int (iZ (ti + 1)), .int (iZ idl), .int (iZ sw), .int (iZ x), .int (iZ ln)])) := ⟨_, rfl⟩
  have hF := fW_to ew7 hF
  have h8 : w7 a = some (.inr (0, [.ref ta, .int (iZ (ti + 1)), .int (iZ idl), .int (iZ sw), .int (iZ x), .int (iZ ln)])) := by rw [ew7]; exact fU_s _ _ _
  have h9 : w7 ta = some (aZ g.2.1 64 (va_up tof (((ti % 64).toNat)) x)) := by rw [ew7]; exact fU_k (fw_ne h6 h5 ne_lr) h6
  refine lv_iload_n hx hb d_Hi_pass_30 rfl (lv_at hl 1 rfl) ?_
  refine lv_bipush (v := iZ (-3)) hx hb d_Hi_pass_31 (by decide) ?_
  refine zz_icmp_ne (tgt := 49) hx hb d_Hi_pass_33 (by decide) ⟨by omega, by omega⟩ ⟨by omega, by omega⟩ (fun c33 => ?_) (fun c33 => ?_)
  · refine lv_iload_n hx hb d_Hi_pass_49 rfl (lv_at hl 1 rfl) ?_
    refine lv_aload_n hx hb d_Hi_pass_50 rfl (lv_at hl 0 rfl) ?_
    refine fw_get (ci := 0) (v := .int (iZ ln)) (C := rHi) (T := fHi) (N := 6) hx hb hts iHi hown hK hF.1 h8 rfl 5 (by decide) (hts _ t_109) (fun _ h9 => h9) rfl d_Hi_pass_51 ?_
    refine zz_icmp_eq (tgt := 72) hx hb d_Hi_pass_54 (by decide) ⟨by omega, by omega⟩ ⟨by omega, by omega⟩ (fun c54 => ?_) (fun c54 => ?_)
    · exact rw_vret hx hb hr hlocks d_Hi_pass_72 (by omega) (by omega) hF ⟨by rw [if_neg c33, if_pos (Or.inr c54), if_neg c33]; exact c54 ▸ h8, h9, (fun q x0 x1 => by rw [ew7, fU_n x0, ew4, fU_n x0, ew1, fU_n x1])⟩
    · refine lv_aload_n hx hb d_Hi_pass_57 rfl (lv_at hl 0 rfl) ?_
      refine lv_dup hx hb d_Hi_pass_58 rfl ?_
      refine fw_get (ci := 0) (v := .int (iZ sw)) (C := rHi) (T := fHi) (N := 6) hx hb hts iHi hown hK hF.1 h8 rfl 3 (by decide) (hts _ t_105) (fun _ h9 => h9) rfl d_Hi_pass_59 ?_
      refine lv_iconst (v := iZ 1) hx hb d_Hi_pass_62 rfl ?_
      refine zz_iadd hx hb d_Hi_pass_63 ?_
      refine fw_put (ci := 0) (v := .int (iZ (sw + 1))) (ty := .int) (C := rHi) (T := fHi) (N := 6) hx hb hts iHi yHi_t yHi_ok yHi_nm hown hK hF h8 rfl 3 (by decide) (hts _ t_105) (fun _ h9 => h9) rfl (by decide +kernel) rfl rfl (Nat.le_of_ble_eq_true rfl) d_Hi_pass_64 (fun H locs hF => ?_)
      obtain ⟨w10, ew10⟩ : ∃ zw : fw, zw = fU w7 a (.inr (0, [.ref ta, .int (iZ (ti + 1)), .int (iZ idl), .int (iZ (sw + 1)), .int (iZ x), .int (iZ ln)])) := ⟨_, rfl⟩
      have hF := fW_to ew10 hF
      have h11 : w10 a = some (.inr (0, [.ref ta, .int (iZ (ti + 1)), .int (iZ idl), .int (iZ (sw + 1)), .int (iZ x), .int (iZ ln)])) := by rw [ew10]; exact fU_s _ _ _
      have h12 : w10 ta = some (aZ g.2.1 64 (va_up tof (((ti % 64).toNat)) x)) := by rw [ew10]; exact fU_k (fw_ne h9 h8 ne_lr) h9
      refine lv_aload_n hx hb d_Hi_pass_67 rfl (lv_at hl 0 rfl) ?_
      refine lv_iload_n hx hb d_Hi_pass_68 rfl (lv_at hl 1 rfl) ?_
      refine fw_put (ci := 0) (v := .int (iZ x)) (ty := .int) (C := rHi) (T := fHi) (N := 6) hx hb hts iHi yHi_t yHi_ok yHi_nm hown hK hF h11 rfl 5 (by decide) (hts _ t_109) (fun _ h9 => h9) rfl (by decide +kernel) rfl rfl (Nat.le_of_ble_eq_true rfl) d_Hi_pass_69 (fun H locs hF => ?_)
      obtain ⟨w13, ew13⟩ : ∃ zw : fw, zw = fU w10 a (.inr (0, [.ref ta, .int (iZ (ti + 1)), .int (iZ idl), .int (iZ (sw + 1)), .int (iZ x), .int (iZ x)])) := ⟨_, rfl⟩
      have hF := fW_to ew13 hF
      have h14 : w13 a = some (.inr (0, [.ref ta, .int (iZ (ti + 1)), .int (iZ idl), .int (iZ (sw + 1)), .int (iZ x), .int (iZ x)])) := by rw [ew13]; exact fU_s _ _ _
      have h15 : w13 ta = some (aZ g.2.1 64 (va_up tof (((ti % 64).toNat)) x)) := by rw [ew13]; exact fU_k (fw_ne h12 h11 ne_lr) h12
      exact rw_vret hx hb hr hlocks d_Hi_pass_72 (by omega) (by omega) hF ⟨by rw [if_neg c33, if_neg (fun q => q.elim c33 c54), if_neg c33]; exact h14, h15, (fun q x0 x1 => by rw [ew13, fU_n x0, ew10, fU_n x0, ew7, fU_n x0, ew4, fU_n x0, ew1, fU_n x1])⟩
  · refine lv_aload_n hx hb d_Hi_pass_36 rfl (lv_at hl 0 rfl) ?_
    refine lv_dup hx hb d_Hi_pass_37 rfl ?_
    refine fw_get (ci := 0) (v := .int (iZ idl)) (C := rHi) (T := fHi) (N := 6) hx hb hts iHi hown hK hF.1 h8 rfl 2 (by decide) (hts _ t_103) (fun _ h9 => h9) rfl d_Hi_pass_38 ?_
    refine lv_iconst (v := iZ 1) hx hb d_Hi_pass_41 rfl ?_
    refine zz_iadd hx hb d_Hi_pass_42 ?_
    refine fw_put (ci := 0) (v := .int (iZ (idl + 1))) (ty := .int) (C := rHi) (T := fHi) (N := 6) hx hb hts iHi yHi_t yHi_ok yHi_nm hown hK hF h8 rfl 2 (by decide) (hts _ t_103) (fun _ h9 => h9) rfl (by decide +kernel) rfl rfl (Nat.le_of_ble_eq_true rfl) d_Hi_pass_43 (fun H locs hF => ?_)
    obtain ⟨w16, ew16⟩ : ∃ zw : fw, zw = fU w7 a (.inr (0, [.ref ta, .int (iZ (ti + 1)), .int (iZ (idl + 1)), .int (iZ sw), .int (iZ x), .int (iZ ln)])) := ⟨_, rfl⟩
    have hF := fW_to ew16 hF
    have h17 : w16 a = some (.inr (0, [.ref ta, .int (iZ (ti + 1)), .int (iZ (idl + 1)), .int (iZ sw), .int (iZ x), .int (iZ ln)])) := by rw [ew16]; exact fU_s _ _ _
    have h18 : w16 ta = some (aZ g.2.1 64 (va_up tof (((ti % 64).toNat)) x)) := by rw [ew16]; exact fU_k (fw_ne h9 h8 ne_lr) h9
    refine lv_goto (tgt := 72) hx hb d_Hi_pass_46 (by decide) ?_
    exact rw_vret hx hb hr hlocks d_Hi_pass_72 (by omega) (by omega) hF ⟨by rw [if_pos c33, if_pos (Or.inl c33), if_pos c33]; exact h17, h18, (fun q x0 x1 => by rw [ew16, fU_n x0, ew7, fU_n x0, ew4, fU_n x0, ew1, fU_n x1])⟩
