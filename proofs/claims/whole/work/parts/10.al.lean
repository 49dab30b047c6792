set_option maxHeartbeats 4000000 in
set_option maxRecDepth 100000 in
theorem c_Pre_chk (l : Launch) (g : GG) (w : fw) (i n : Int) (hi : 0 ≤ i ∧ i < n) (hr_0 : ir n) : RO l y_Pc_checkIndex w_Pc_checkIndex ({ frames := 0, cells := 0, slots := 0, locals := 0 }) g w [.int (iZ i), .int (iZ n), .null] (.int (iZ i)) := by
  refine ro_go (by decide) rfl (Nat.le_of_ble_eq_true rfl) ?_
  intro p e s m below meth c hx hb hr hml hown hts hlocks hK hP ls hl
  have hown : s.vm.findClass rPc = some m.cls := hown
  have hl : lv_has ls 3 [(0, .int (iZ i)), (1, .int (iZ n)), (2, .null)] := hl
  obtain ⟨hr_0a, hr_0b⟩ := hr_0
  refine lv_iload_n hx hb d_Pc_checkIndex_0 rfl (lv_at hl 0 rfl) ?_
  refine zz_if_lt (tgt := 9) hx hb d_Pc_checkIndex_1 (by decide) ⟨by omega, by omega⟩ (fun c1 => ?_) (fun c1 => ?_)
  · exfalso; omega
  · refine lv_iload_n hx hb d_Pc_checkIndex_4 rfl (lv_at hl 0 rfl) ?_
    refine lv_iload_n hx hb d_Pc_checkIndex_5 rfl (lv_at hl 1 rfl) ?_
    refine zz_icmp_lt (tgt := 16) hx hb d_Pc_checkIndex_6 (by decide) ⟨by omega, by omega⟩ ⟨by omega, by omega⟩ (fun c6 => ?_) (fun c6 => ?_)
    · refine lv_iload_n hx hb d_Pc_checkIndex_16 rfl (lv_at hl 0 rfl) ?_
      exact ro_iret hx hb hr hlocks d_Pc_checkIndex_17 rfl
    · exfalso; omega

set_option maxHeartbeats 4000000 in
set_option maxRecDepth 100000 in
theorem c_Obs_chk (l : Launch) (g : GG) (w : fw) (i n : Int) (hi : 0 ≤ i ∧ i < n) (hr_0 : ir n) : RO l y_Ob_checkIndex w_Ob_checkIndex ({ frames := 1, cells := 0, slots := 0, locals := 22 }) g w [.int (iZ i), .int (iZ n)] (.int (iZ i)) := by
  refine ro_go (by decide) rfl (Nat.le_of_ble_eq_true rfl) ?_
  intro p e s m below meth c hx hb hr hml hown hts hlocks hK hP ls hl
  have hown : s.vm.findClass rOb = some m.cls := hown
  have hl : lv_has ls 2 [(0, .int (iZ i)), (1, .int (iZ n))] := hl
  refine lv_iload_n hx hb d_Ob_checkIndex_0 rfl (lv_at hl 0 rfl) ?_
  refine lv_iload_n hx hb d_Ob_checkIndex_1 rfl (lv_at hl 1 rfl) ?_
  refine lv_null hx hb d_Ob_checkIndex_2 ?_
  refine fw_ro (r := .int (iZ i)) (va_runS (As := [.int (iZ i), .int (iZ n), .null]) (rest := []) ⟨hx, hb, hml, hown, hts⟩ (c_Pre_chk l g w i n hi hr_0) (va_cwS 3 hts (gdS k_Pc_checkIndex t_296 t_297 t_58) rfl rfl rfl (by decide +kernel) ⟨Nat.le_of_ble_eq_true rfl, Nat.le_of_ble_eq_true rfl⟩) ⟨roP_blind, roP_pre hK hP⟩ rfl rfl hl.1 rfl (lv_room (Nat.le_of_ble_eq_true rfl)) d_Ob_checkIndex_3 ⟨by decide, by decide⟩) ?_
  exact ro_iret hx hb hr hlocks d_Ob_checkIndex_6 rfl

set_option maxHeartbeats 4000000 in
set_option maxRecDepth 100000 in
theorem c_AL_size (l : Launch) (g : GG) (w : fw) (a te : Nat) (mo n : Int) (ha : w a = some (.inr (6, [.int (iZ mo), .ref te, .int (iZ n)]))) : RO l y_AL_size w_AL_size ({ frames := 0, cells := 0, slots := 0, locals := 0 }) g w [.ref a] (.int (iZ n)) := by
  refine ro_go (by decide) rfl (Nat.le_of_ble_eq_true rfl) ?_
  intro p e s m below meth c hx hb hr hml hown hts hlocks hK hP ls hl
  have hown : s.vm.findClass rAL = some m.cls := hown
  have hl : lv_has ls 1 [(0, .ref a)] := hl
  refine lv_aload_n hx hb d_AL_size_0 rfl (lv_at hl 0 rfl) ?_
  refine fw_get (ci := 6) (v := .int (iZ n)) (C := rAL) (T := fAL) (N := 3) hx hb hts iAL hown hK hP ha rfl 2 (by decide) (hts _ t_83) (fun _ h9 => h9) rfl d_AL_size_1 ?_
  exact ro_iret hx hb hr hlocks d_AL_size_4 rfl

set_option maxHeartbeats 4000000 in
set_option maxRecDepth 100000 in
theorem c_AL_isEmpty (l : Launch) (g : GG) (w : fw) (a te : Nat) (mo n : Int) (ha : w a = some (.inr (6, [.int (iZ mo), .ref te, .int (iZ n)]))) (hr_0 : ir n) : RO l y_AL_isEmpty w_AL_isEmpty ({ frames := 0, cells := 0, slots := 0, locals := 0 }) g w [.ref a] (.int (bZ (decide (n = 0)))) := by
  refine ro_go (by decide) rfl (Nat.le_of_ble_eq_true rfl) ?_
  intro p e s m below meth c hx hb hr hml hown hts hlocks hK hP ls hl
  have hown : s.vm.findClass rAL = some m.cls := hown
  have hl : lv_has ls 1 [(0, .ref a)] := hl
  obtain ⟨hr_0a, hr_0b⟩ := hr_0
  refine lv_aload_n hx hb d_AL_isEmpty_0 rfl (lv_at hl 0 rfl) ?_
  refine fw_get (ci := 6) (v := .int (iZ n)) (C := rAL) (T := fAL) (N := 3) hx hb hts iAL hown hK hP ha rfl 2 (by decide) (hts _ t_83) (fun _ h9 => h9) rfl d_AL_isEmpty_1 ?_
  refine zz_if_ne (tgt := 11) hx hb d_AL_isEmpty_4 (by decide) ⟨by omega, by omega⟩ (fun c4 => ?_) (fun c4 => ?_)
  · refine lv_iconst (v := iZ 0) hx hb d_AL_isEmpty_11 rfl ?_
    exact ro_zret hx hb hr hlocks d_AL_isEmpty_12 (bz0 (decide_eq_false (by omega)))
  · refine lv_iconst (v := iZ 1) hx hb d_AL_isEmpty_7 rfl ?_
    refine lv_goto (tgt := 12) hx hb d_AL_isEmpty_8 (by decide) ?_
    exact ro_zret hx hb hr hlocks d_AL_isEmpty_12 (bz1 (decide_eq_true (by omega)))

set_option maxHeartbeats 4000000 in
set_option maxRecDepth 100000 in
theorem c_AL_el (l : Launch) (g : GG) (w : fw) (a te : Nat) (mo : Int) (n : Nat) (qf : Nat → Option Nat) (i b : Nat) (ha : w a = some (.inr (6, [.int (iZ mo), .ref te, .int (iZ ((n : Int)))]))) (hte : w te = some (aQ g.2.2.1 10 qf)) (hi : i < n) (hn : n ≤ 10) (hq : qf i = some b) : RO l y_AL_elementData w_AL_elementData ({ frames := 0, cells := 0, slots := 0, locals := 0 }) g w [.ref a, .int (iZ ((i : Int)))] (.ref b) := by
  refine ro_go (by decide) rfl (Nat.le_of_ble_eq_true rfl) ?_
  intro p e s m below meth c hx hb hr hml hown hts hlocks hK hP ls hl
  have hown : s.vm.findClass rAL = some m.cls := hown
  have hl : lv_has ls 2 [(0, .ref a), (1, .int (iZ ((i : Int))))] := hl
  refine lv_aload_n hx hb d_AL_elementData_0 rfl (lv_at hl 0 rfl) ?_
  refine fw_get (ci := 6) (v := .ref te) (C := rAL) (T := fAL) (N := 3) hx hb hts iAL hown hK hP ha rfl 1 (by decide) (hts _ t_82) (fun _ h9 => h9) rfl d_AL_elementData_1 ?_
  refine lv_iload_n hx hb d_AL_elementData_4 rfl (lv_at hl 1 rfl) ?_
  refine fw_qald hx hb hK hP hte (by decide) i b rfl (by omega) hq d_AL_elementData_5 ?_
  exact ro_aret hx hb hr (Or.inl ⟨_, rfl⟩) hlocks d_AL_elementData_6 rfl

set_option maxHeartbeats 4000000 in
set_option maxRecDepth 100000 in
theorem c_AL_get (l : Launch) (g : GG) (w : fw) (a te : Nat) (mo : Int) (n : Nat) (qf : Nat → Option Nat) (i b : Nat) (ha : w a = some (.inr (6, [.int (iZ mo), .ref te, .int (iZ ((n : Int)))]))) (hte : w te = some (aQ g.2.2.1 10 qf)) (hi : i < n) (hn : n ≤ 10) (hq : qf i = some b) : RO l y_AL_get w_AL_get ({ frames := 2, cells := 0, slots := 0, locals := 43 }) g w [.ref a, .int (iZ ((i : Int)))] (.ref b) := by
  refine ro_go (by decide) rfl (Nat.le_of_ble_eq_true rfl) ?_
  intro p e s m below meth c hx hb hr hml hown hts hlocks hK hP ls hl
  have hown : s.vm.findClass rAL = some m.cls := hown
  have hl : lv_has ls 2 [(0, .ref a), (1, .int (iZ ((i : Int))))] := hl
  refine lv_iload_n hx hb d_AL_get_0 rfl (lv_at hl 1 rfl) ?_
  refine lv_aload_n hx hb d_AL_get_1 rfl (lv_at hl 0 rfl) ?_
  refine fw_get (ci := 6) (v := .int (iZ ((n : Int)))) (C := rAL) (T := fAL) (N := 3) hx hb hts iAL hown hK hP ha rfl 2 (by decide) (hts _ t_83) (fun _ h9 => h9) rfl d_AL_get_2 ?_
  refine fw_ro (r := .int (iZ ((i : Int)))) (va_runS (As := [.int (iZ ((i : Int))), .int (iZ ((n : Int)))]) (rest := []) ⟨hx, hb, hml, hown, hts⟩ (c_Obs_chk l g w (i : Int) (n : Int) ⟨by omega, by omega⟩ ⟨by omega, by omega⟩) (va_cwS 2 hts (gdS k_Ob_checkIndex t_293 t_294 t_57) rfl rfl rfl (by decide +kernel) ⟨Nat.le_of_ble_eq_true rfl, Nat.le_of_ble_eq_true rfl⟩) ⟨roP_blind, roP_pre hK hP⟩ rfl rfl hl.1 rfl (lv_room (Nat.le_of_ble_eq_true rfl)) d_AL_get_5 ⟨by decide, by decide⟩) ?_
  refine lv_pop hx hb d_AL_get_8 rfl ?_
  refine lv_aload_n hx hb d_AL_get_9 rfl (lv_at hl 0 rfl) ?_
  refine lv_iload_n hx hb d_AL_get_10 rfl (lv_at hl 1 rfl) ?_
  refine fw_ro (r := .ref b) (va_runV (As := [.int (iZ ((i : Int)))]) (rest := []) ⟨hx, hb, hml, hown, hts⟩ (c_AL_el l g w a te mo n qf i b ha hte hi hn hq) (cwV 1 hts (gdV k_AL_elementData t_299 t_300 t_301 t_48) rfl rfl rfl (by decide +kernel) ⟨Nat.le_of_ble_eq_true rfl, Nat.le_of_ble_eq_true rfl⟩) ⟨roP_blind, fw_recv hK hP ha rfl, roP_pre hK hP⟩ rfl rfl hl.1 rfl (lv_room (Nat.le_of_ble_eq_true rfl)) d_AL_get_11 ⟨by decide, by decide⟩) ?_
  exact ro_aret hx hb hr (Or.inl ⟨_, rfl⟩) hlocks d_AL_get_14 rfl
