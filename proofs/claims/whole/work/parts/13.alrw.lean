set_option maxHeartbeats 4000000 in
set_option maxRecDepth 100000 in
theorem c_AC_init (l : Launch) (g : GG) (w : fw) (sz : Nat) (a : Nat) : RWv l y_Ac_init w_Ac_init ({ frames := 1, cells := 0, slots := 0, locals := 12 }) g w sz [.ref a] 0 0 ((fun w1 => w1 = w)) := by
  refine rw_go (by decide) rfl (Nat.le_of_ble_eq_true rfl) ?_
  intro p e s m below meth c hx hb hr hml hown hts hlocks hin hsz hK hT hA hF ls hl
  subst hsz
  have hown : s.vm.findClass rAc = some m.cls := hown
  have hl : lv_has ls 1 [(0, .ref a)] := hl
  refine lv_aload_n hx hb d_Ac_init_0 rfl (lv_at hl 0 rfl) ?_
  refine W.objInit hx hb hown (hts _ t_79) (hts _ t_66) (hts _ k_Oj_init) rfl (by rw [hml]; exact hl.1) rfl d_Ac_init_1 (Nat.le_of_ble_eq_true rfl) (Nat.le_of_ble_eq_true rfl) ?_
  refine W.eq (g2 := F0 m 4 ls []) rfl ?_
  exact rw_vret hx hb hr hlocks d_Ac_init_4 (by omega) (by omega) hF rfl

set_option maxHeartbeats 4000000 in
set_option maxRecDepth 100000 in
theorem c_ALi_init (l : Launch) (g : GG) (w : fw) (sz : Nat) (a : Nat) (mo n : Int) (ha : w a = some (.inr (6, [.int (iZ mo), .null, .int (iZ n)]))) : RWv l y_Ab_init w_Ab_init ({ frames := 2, cells := 0, slots := 0, locals := 32 }) g w sz [.ref a] 0 0 ((fun w1 => w1 a = some (.inr (6, [.int (iZ 0), .null, .int (iZ n)])) ∧ (∀ q, q ≠ a → w1 q = w q))) := by
  refine rw_go (by decide) rfl (Nat.le_of_ble_eq_true rfl) ?_
  intro p e s m below meth c hx hb hr hml hown hts hlocks hin hsz hK hT hA hF ls hl
  subst hsz
  have hown : s.vm.findClass rAb = some m.cls := hown
  have hl : lv_has ls 1 [(0, .ref a)] := hl
  refine lv_aload_n hx hb d_Ab_init_0 rfl (lv_at hl 0 rfl) ?_
  refine fw_callv (va_runI (As := []) (rest := []) ⟨hx, hb, hml, hown, hts⟩ (c_AC_init l g w s.heap.size a) (cwI 0 hts (gdT k_Ac_init) rfl rfl rfl (hts _ t_46) (hts _ t_76) (hts _ t_77) rfl (by decide +kernel) ⟨Nat.le_of_ble_eq_true rfl, Nat.le_of_ble_eq_true rfl⟩) ⟨rwP_blind, rwP_pre hK hT hA hF⟩ rfl rfl hl.1 rfl (lv_room (Nat.le_of_ble_eq_true rfl)) d_Ab_init_1 ⟨by decide, by decide⟩) hF hA (fun w1 H locs hp2 hz hF => ?_)
  have hF := fW_to hp2.symm hF
  refine lv_aload_n hx hb d_Ab_init_4 rfl (lv_at hl 0 rfl) ?_
  refine lv_iconst (v := iZ 0) hx hb d_Ab_init_5 rfl ?_
  refine fw_put (ci := 6) (v := .int (iZ 0)) (ty := .int) (C := rAL) (T := fAL) (N := 3) hx hb hts iAL yAL_t yAL_ok yAL_nm hown hK hF ha rfl 0 (by decide) (hts _ t_84) (fun _ h9 => h9) rfl (by decide +kernel) rfl rfl (Nat.le_of_ble_eq_true rfl) d_Ab_init_6 (fun H locs hF => ?_)
  obtain ⟨w3, ew3⟩ : ∃ zw : fw, zw = fU w a (.inr (6, [.int (iZ 0), .null, .int (iZ n)])) := ⟨_, rfl⟩
  have hF := fW_to ew3 hF
  have h4 : w3 a = some (.inr (6, [.int (iZ 0), .null, .int (iZ n)])) := by rw [ew3]; exact fU_s _ _ _
  exact rw_vret hx hb hr hlocks d_Ab_init_9 (by omega) (by omega) hF ⟨h4, (fun q x0 => by rw [ew3, fU_n x0])⟩

set_option maxHeartbeats 4000000 in
set_option maxRecDepth 100000 in
theorem c_AL_init (l : Launch) (g : GG) (w : fw) (sz : Nat) (a : Nat) (mo n : Int) (ha : w a = some (.inr (6, [.int (iZ mo), .null, .int (iZ n)]))) : RWv l y_AL_init w_AL_init ({ frames := 3, cells := 0, slots := 0, locals := 52 }) g w sz [.ref a] 0 0 ((fun w1 => w1 a = some (.inr (6, [.int (iZ 0), .ref g.2.2.2, .int (iZ n)])) ∧ (∀ q, q ≠ a → w1 q = w q))) := by
  refine rw_go (by decide) rfl (Nat.le_of_ble_eq_true rfl) ?_
  intro p e s m below meth c hx hb hr hml hown hts hlocks hin hsz hK hT hA hF ls hl
  subst hsz
  have hown : s.vm.findClass rAL = some m.cls := hown
  have hl : lv_has ls 1 [(0, .ref a)] := hl
  refine lv_aload_n hx hb d_AL_init_0 rfl (lv_at hl 0 rfl) ?_
  refine fw_callv (va_runI (As := []) (rest := []) ⟨hx, hb, hml, hown, hts⟩ (c_ALi_init l g w s.heap.size a mo n ha) (cwI 0 hts (gdT k_Ab_init) rfl rfl rfl (hts _ t_47) (hts _ t_73) (hts _ t_74) rfl (by decide +kernel) ⟨Nat.le_of_ble_eq_true rfl, Nat.le_of_ble_eq_true rfl⟩) ⟨rwP_blind, rwP_pre hK hT hA hF⟩ rfl rfl hl.1 rfl (lv_room (Nat.le_of_ble_eq_true rfl)) d_AL_init_1 ⟨by decide, by decide⟩) hF hA (fun w1 H locs hp2 hz hF => ?_)
  obtain ⟨k1, k2⟩ := hp2
  refine lv_aload_n hx hb d_AL_init_4 rfl (lv_at hl 0 rfl) ?_
  refine va_gets hx hb hT.1 hF.2.2 hown (hts _ t_80) (fun _ h9 => h9) d_AL_init_5 ?_
  refine fw_put (ci := 6) (v := .ref g.2.2.2) (ty := .array (.object "java/lang/Object")) (C := rAL) (T := fAL) (N := 3) hx hb hts iAL yAL_t yAL_ok yAL_nm hown hK hF k1 rfl 1 (by decide) (hts _ t_82) (fun _ h9 => h9) rfl (by decide +kernel) rfl rfl (Nat.le_of_ble_eq_true rfl) d_AL_init_8 (fun H locs hF => ?_)
  obtain ⟨w3, ew3⟩ : ∃ zw : fw, zw = fU w1 a (.inr (6, [.int (iZ 0), .ref g.2.2.2, .int (iZ n)])) := ⟨_, rfl⟩
  have hF := fW_to ew3 hF
  have h4 : w3 a = some (.inr (6, [.int (iZ 0), .ref g.2.2.2, .int (iZ n)])) := by rw [ew3]; exact fU_s _ _ _
  exact rw_vret hx hb hr hlocks d_AL_init_11 (by omega) (by omega) hF ⟨h4, (fun q x0 => by rw [ew3, fU_n x0, k2 q x0])⟩

set_option maxHeartbeats 4000000 in
set_option maxRecDepth 100000 in
theorem c_AL_growI (l : Launch) (g : GG) (w : fw) (sz : Nat) (a : Nat) (mo mi : Int) (ha : w a = some (.inr (6, [.int (iZ mo), .ref g.2.2.2, .int (iZ 0)]))) (hm : 1 ≤ mi ∧ mi ≤ 10) : RWr l y_AL_grow_ILjava w_AL_grow_ILjava ({ frames := 1, cells := 1, slots := 10, locals := 15 }) g w sz [.ref a, .int (iZ mi)] 1 10 ((fun r w1 => w r = none ∧ w1 a = some (.inr (6, [.int (iZ mo), .ref r, .int (iZ 0)])) ∧ w1 r = some (aQ g.2.2.1 10 (fun _ => none)) ∧ (∀ q, q ≠ a → q ≠ r → w1 q = w q))) := by
  refine rw_go (by decide) rfl (Nat.le_of_ble_eq_true rfl) ?_
  intro p e s m below meth c hx hb hr hml hown hts hlocks hin hsz hK hT hA hF ls hl
  subst hsz
  have hown : s.vm.findClass rAL = some m.cls := hown
  have hl : lv_has ls 4 [(0, .ref a), (1, .int (iZ mi))] := hl
  refine lv_aload_n hx hb d_AL_grow_ILjava_0 rfl (lv_at hl 0 rfl) ?_
  refine fw_get (ci := 6) (v := .ref g.2.2.2) (C := rAL) (T := fAL) (N := 3) hx hb hts iAL hown hK hF.1 ha rfl 1 (by decide) (hts _ t_82) (fun _ h9 => h9) rfl d_AL_grow_ILjava_1 ?_
  refine va_tlen (v := iZ 0) hx hb hT.2 hF.2.2 rfl d_AL_grow_ILjava_4 ?_
  refine lv_istore_n (lv' := [(2, .int (iZ 0)), (0, .ref a), (1, .int (iZ mi))]) hx hb d_AL_grow_ILjava_5 rfl hl (by decide) rfl (fun ls hl => ?_)
  refine lv_iload_n hx hb d_AL_grow_ILjava_6 rfl (lv_at hl 0 rfl) ?_
  refine zz_if_gt (tgt := 20) hx hb d_AL_grow_ILjava_7 (by decide) ⟨by omega, by omega⟩ (fun c7 => ?_) (fun c7 => ?_)
  · exfalso; omega
  · refine lv_aload_n hx hb d_AL_grow_ILjava_10 rfl (lv_at hl 1 rfl) ?_
    refine fw_get (ci := 6) (v := .ref g.2.2.2) (C := rAL) (T := fAL) (N := 3) hx hb hts iAL hown hK hF.1 ha rfl 1 (by decide) (hts _ t_82) (fun _ h9 => h9) rfl d_AL_grow_ILjava_11 ?_
    refine va_gets hx hb hT.1 hF.2.2 hown (hts _ t_80) (fun _ h9 => h9) d_AL_grow_ILjava_14 ?_
    refine lv_acmp_eq (rx := some g.2.2.2) (ry := some g.2.2.2) (tgt := 45) hx hb d_AL_grow_ILjava_17 (by decide) (fun c17 => ?_) (fun c17 => ?_)
    · refine lv_aload_n hx hb d_AL_grow_ILjava_45 rfl (lv_at hl 1 rfl) ?_
      refine lv_bipush (v := iZ 10) hx hb d_AL_grow_ILjava_46 (by decide) ?_
      refine lv_iload_n hx hb d_AL_grow_ILjava_48 rfl (lv_at hl 2 rfl) ?_
      refine va_mmax hx hb (by rw [hml]; exact hl.1.symm) hown (hts _ t_276) (hts _ t_244) (hts _ t_54) (hts _ k_Ma_max) (Nat.le_of_ble_eq_true rfl) (Nat.le_of_ble_eq_true rfl) (Nat.le_of_ble_eq_true rfl) (Nat.le_of_ble_eq_true rfl) d_AL_grow_ILjava_49 ?_
      rw [iZ_max ⟨by omega, by omega⟩ ⟨by omega, by omega⟩]
      refine fw_newq (N := 10) hx hb hown (hts _ t_277) hK hF hA (by omega) (by decide) (Nat.le_of_ble_eq_true rfl) (Nat.le_of_ble_eq_true rfl) d_AL_grow_ILjava_52 (fun q2 H nq2 hF => ?_)
      obtain ⟨w3, ew3⟩ : ∃ zw : fw, zw = fU w q2 (aQ g.2.2.1 10 (fun _ => none)) := ⟨_, rfl⟩
      have hF := fW_to ew3 hF
      have h4 : w3 a = some (.inr (6, [.int (iZ mo), .ref g.2.2.2, .int (iZ 0)])) := by rw [ew3]; exact fU_k (fw_new_ne ha nq2) ha
      have h5 : w3 q2 = some (aQ g.2.2.1 10 (fun _ => none)) := by rw [ew3]; exact fU_s _ _ _
      refine lv_dup_x1 hx hb d_AL_grow_ILjava_55 rfl rfl ?_
      refine fw_put (ci := 6) (v := .ref q2) (ty := .array (.object "java/lang/Object")) (C := rAL) (T := fAL) (N := 3) hx hb hts iAL yAL_t yAL_ok yAL_nm hown hK hF h4 rfl 1 (by decide) (hts _ t_82) (fun _ h9 => h9) rfl (by decide +kernel) rfl rfl (Nat.le_of_ble_eq_true rfl) d_AL_grow_ILjava_56 (fun H locs hF => ?_)
      obtain ⟨w6, ew6⟩ : ∃ zw : fw, zw = fU w3 a (.inr (6, [.int (iZ mo), .ref q2, .int (iZ 0)])) := ⟨_, rfl⟩
      have hF := fW_to ew6 hF
      have h7 : w6 a = some (.inr (6, [.int (iZ mo), .ref q2, .int (iZ 0)])) := by rw [ew6]; exact fU_s _ _ _
      have h8 : w6 q2 = some (aQ g.2.2.1 10 (fun _ => none)) := by rw [ew6]; exact fU_k (fw_ne h5 h4 ne_lr) h5
      exact rw_aret hx hb hr (Or.inr ⟨_, rfl⟩) hlocks d_AL_grow_ILjava_59 (by omega) (by omega) hF ⟨nq2, h7, h8, (fun q x0 x1 => by rw [ew6, fU_n x0, ew3, fU_n x1])⟩
    · exact absurd rfl c17

set_option maxHeartbeats 4000000 in
set_option maxRecDepth 100000 in
theorem c_AL_grow (l : Launch) (g : GG) (w : fw) (sz : Nat) (a : Nat) (mo : Int) (ha : w a = some (.inr (6, [.int (iZ mo), .ref g.2.2.2, .int (iZ 0)]))) : RWr l y_AL_grow w_AL_grow ({ frames := 2, cells := 1, slots := 10, locals := 38 }) g w sz [.ref a] 1 10 ((fun r w1 => w r = none ∧ w1 a = some (.inr (6, [.int (iZ mo), .ref r, .int (iZ 0)])) ∧ w1 r = some (aQ g.2.2.1 10 (fun _ => none)) ∧ (∀ q, q ≠ a → q ≠ r → w1 q = w q))) := by
  refine rw_go (by decide) rfl (Nat.le_of_ble_eq_true rfl) ?_
  intro p e s m below meth c hx hb hr hml hown hts hlocks hin hsz hK hT hA hF ls hl
  subst hsz
  have hown : s.vm.findClass rAL = some m.cls := hown
  have hl : lv_has ls 1 [(0, .ref a)] := hl
  refine lv_aload_n hx hb d_AL_grow_0 rfl (lv_at hl 0 rfl) ?_
  refine lv_aload_n hx hb d_AL_grow_1 rfl (lv_at hl 0 rfl) ?_
  refine fw_get (ci := 6) (v := .int (iZ 0)) (C := rAL) (T := fAL) (N := 3) hx hb hts iAL hown hK hF.1 ha rfl 2 (by decide) (hts _ t_83) (fun _ h9 => h9) rfl d_AL_grow_2 ?_
  refine lv_iconst (v := iZ 1) hx hb d_AL_grow_5 rfl ?_
  refine zz_iadd hx hb d_AL_grow_6 ?_
  refine fw_callr (va_runV (As := [.int (iZ (0 + 1))]) (rest := []) ⟨hx, hb, hml, hown, hts⟩ (c_AL_growI l g w s.heap.size a mo (0 + 1) ha (by omega)) (cwV 1 hts (gdV k_AL_grow_ILjava t_236 t_238 t_2 t_48) rfl rfl rfl (by decide +kernel) ⟨Nat.le_of_ble_eq_true rfl, Nat.le_of_ble_eq_true rfl⟩) ⟨rwP_blind, fw_recv hK hF.1 ha rfl, rwP_pre hK hT hA hF⟩ rfl rfl hl.1 rfl (lv_room (Nat.le_of_ble_eq_true rfl)) d_AL_grow_7 ⟨by decide, by decide⟩) hF hA (fun q3 w1 H locs hp2 hz hF => ?_)
  obtain ⟨k1, k2, k3, k4⟩ := hp2
  exact rw_aret hx hb hr (Or.inr ⟨_, rfl⟩) hlocks d_AL_grow_10 (by omega) (by omega) hF ⟨k1, k2, k3, (fun q x0 x1 => by rw [k4 q x0 x1])⟩
