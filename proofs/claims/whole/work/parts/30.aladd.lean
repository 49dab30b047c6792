set_option maxHeartbeats 4000000 in
set_option maxRecDepth 100000 in
theorem c_AL_add3F (l : Launch) (g : GG) (w : fw) (sz : Nat) (a v : Nat) (mo : Int) (ci : Nat) (vs : List Value) (rr : vw_C) (ha : w a = some (.inr (6, [.int (iZ mo), .ref g.2.2.2, .int (iZ 0)]))) (hv : w v = some (.inr (ci, vs))) (hc : vwCl[ci]? = some rr) (hca : Cond.castable rr.1 obj ∈ nwL) (hva : v ≠ a) : RWv l y_AL_add_Ljaval w_AL_add_Ljaval ({ frames := 3, cells := 1, slots := 10, locals := 58 }) g w sz [.ref a, .ref v, .ref g.2.2.2, .int (iZ 0)] 1 10 ((fun w1 => (∃ q0 : Nat, w q0 = none ∧ w1 a = some (.inr (6, [.int (iZ mo), .ref q0, .int (iZ (0 + 1))])) ∧ w1 q0 = some (aQ g.2.2.1 10 (va_up (fun _ => none) 0 (some v))) ∧ (∀ q, q ≠ a → q ≠ q0 → w1 q = w q)))) := by
  refine rw_go (by decide) rfl (Nat.le_of_ble_eq_true rfl) ?_
  intro p e s m below meth c hx hb hr hml hown hts hlocks hin hsz hK hT hA hF ls hl
  subst hsz
  have hown : s.vm.findClass rAL = some m.cls := hown
  have hl : lv_has ls 4 [(0, .ref a), (1, .ref v), (2, .ref g.2.2.2), (3, .int (iZ 0))] := hl
  refine lv_iload_n hx hb d_AL_add_Ljaval_0 rfl (lv_at hl 3 rfl) ?_
  refine lv_aload_n hx hb d_AL_add_Ljaval_1 rfl (lv_at hl 2 rfl) ?_
  refine va_tlen (v := iZ 0) hx hb hT.2 hF.2.2 rfl d_AL_add_Ljaval_2 ?_
  refine zz_icmp_ne (tgt := 11) hx hb d_AL_add_Ljaval_3 (by decide) ⟨by omega, by omega⟩ ⟨by omega, by omega⟩ (fun c3 => ?_) (fun c3 => ?_)
  · exfalso; omega
  · refine lv_aload_n hx hb d_AL_add_Ljaval_6 rfl (lv_at hl 0 rfl) ?_
    refine fw_callr (va_runV (As := []) (rest := []) ⟨hx, hb, hml, hown, hts⟩ (c_AL_grow l g w s.heap.size a mo ha) (cwV 0 hts (gdV k_AL_grow t_232 t_234 t_1 t_48) rfl rfl rfl (by decide +kernel) ⟨Nat.le_of_ble_eq_true rfl, Nat.le_of_ble_eq_true rfl⟩) ⟨rwP_blind, fw_recv hK hF.1 ha rfl, rwP_pre hK hT hA hF⟩ rfl rfl hl.1 rfl (lv_room (Nat.le_of_ble_eq_true rfl)) d_AL_add_Ljaval_7 ⟨by decide, by decide⟩) hF hA (fun q3 w1 H locs hp2 hz hF => ?_)
    obtain ⟨k1, k2, k3, k4⟩ := hp2
    have h4 : w1 v = some (.inr (ci, vs)) := (k4 v hva (fw_new_ne hv k1)).trans hv
    refine lv_astore_n (lv' := [(2, .ref q3), (0, .ref a), (1, .ref v), (3, .int (iZ 0))]) hx hb d_AL_add_Ljaval_10 rfl hl (by decide) rfl (fun ls hl => ?_)
    refine lv_aload_n hx hb d_AL_add_Ljaval_11 rfl (lv_at hl 0 rfl) ?_
    refine lv_iload_n hx hb d_AL_add_Ljaval_12 rfl (lv_at hl 3 rfl) ?_
    refine lv_aload_n hx hb d_AL_add_Ljaval_13 rfl (lv_at hl 2 rfl) ?_
    refine fw_qast hx hb hK hF k3 (by decide) h4 hc hca ((0 : Nat)) rfl (by decide) d_AL_add_Ljaval_14 (fun H locs hF => ?_)
    obtain ⟨w5, ew5⟩ : ∃ zw : fw, zw = fU w1 q3 (aQ g.2.2.1 10 (va_up (fun _ => none) ((0 : Nat)) (some v))) := ⟨_, rfl⟩
    have hF := fW_to ew5 hF
    have h6 : w5 v = some (.inr (ci, vs)) := by rw [ew5]; exact fU_k (fw_ne h4 k3 ne_rl) h4
    have h7 : w5 a = some (.inr (6, [.int (iZ mo), .ref q3, .int (iZ 0)])) := by rw [ew5]; exact fU_k (fw_ne k2 k3 ne_rl) k2
    have h8 : w5 q3 = some (aQ g.2.2.1 10 (va_up (fun _ => none) ((0 : Nat)) (some v))) := by rw [ew5]; exact fU_s _ _ _
    refine lv_aload_n hx hb d_AL_add_Ljaval_15 rfl (lv_at hl 1 rfl) ?_
    refine lv_iload_n hx hb d_AL_add_Ljaval_16 rfl (lv_at hl 3 rfl) ?_
    refine lv_iconst (v := iZ 1) hx hb d_AL_add_Ljaval_17 rfl ?_
    refine zz_iadd hx hb d_AL_add_Ljaval_18 ?_
    refine fw_put (ci := 6) (v := .int (iZ (0 + 1))) (ty := .int) (C := rAL) (T := fAL) (N := 3) hx hb hts iAL yAL_t yAL_ok yAL_nm hown hK hF h7 rfl 2 (by decide) (hts _ t_83) (fun _ h9 => h9) rfl (by decide +kernel) rfl rfl (Nat.le_of_ble_eq_true rfl) d_AL_add_Ljaval_19 (fun H locs hF => ?_)
    obtain ⟨w9, ew9⟩ : ∃ zw : fw, zw = fU w5 a (.inr (6, [.int (iZ mo), .ref q3, .int (iZ (0 + 1))])) := ⟨_, rfl⟩
    have hF := fW_to ew9 hF
    have h10 : w9 v = some (.inr (ci, vs)) := by rw [ew9]; exact fU_k hva h6
    have h11 : w9 a = some (.inr (6, [.int (iZ mo), .ref q3, .int (iZ (0 + 1))])) := by rw [ew9]; exact fU_s _ _ _
    have h12 : w9 q3 = some (aQ g.2.2.1 10 (va_up (fun _ => none) ((0 : Nat)) (some v))) := by rw [ew9]; exact fU_k (fw_ne h8 h7 ne_lr) h8
    exact rw_vret hx hb hr hlocks d_AL_add_Ljaval_22 (by omega) (by omega) hF ⟨q3, k1, h11, h12, (fun q x0 x1 => by rw [ew9, fU_n x0, ew5, fU_n x1, k4 q x0 x1])⟩

set_option maxHeartbeats 4000000 in
set_option maxRecDepth 100000 in
theorem c_AL_addF (l : Launch) (g : GG) (w : fw) (sz : Nat) (a v : Nat) (mo : Int) (ci : Nat) (vs : List Value) (rr : vw_C) (ha : w a = some (.inr (6, [.int (iZ mo), .ref g.2.2.2, .int (iZ 0)]))) (hv : w v = some (.inr (ci, vs))) (hc : vwCl[ci]? = some rr) (hca : Cond.castable rr.1 obj ∈ nwL) (hva : v ≠ a) : RWi l y_AL_add w_AL_add ({ frames := 4, cells := 1, slots := 10, locals := 81 }) g w sz [.ref a, .ref v] 1 10 ((fun _ w1 => (∃ q0 : Nat, w q0 = none ∧ w1 a = some (.inr (6, [.int (iZ (mo + 1)), .ref q0, .int (iZ (0 + 1))])) ∧ w1 q0 = some (aQ g.2.2.1 10 (va_up (fun _ => none) 0 (some v))) ∧ (∀ q, q ≠ a → q ≠ q0 → w1 q = w q)))) := by
  refine rw_go (by decide) rfl (Nat.le_of_ble_eq_true rfl) ?_
  intro p e s m below meth c hx hb hr hml hown hts hlocks hin hsz hK hT hA hF ls hl
  subst hsz
  have hown : s.vm.findClass rAL = some m.cls := hown
  have hl : lv_has ls 2 [(0, .ref a), (1, .ref v)] := hl
  refine lv_aload_n hx hb d_AL_add_0 rfl (lv_at hl 0 rfl) ?_
  refine lv_dup hx hb d_AL_add_1 rfl ?_
  refine fw_get (ci := 6) (v := .int (iZ mo)) (C := rAL) (T := fAL) (N := 3) hx hb hts iAL hown hK hF.1 ha rfl 0 (by decide) (hts _ t_85) (fun x9 h9 => u_same (hts _ t_86) x9 h9) rfl d_AL_add_2 ?_
  refine lv_iconst (v := iZ 1) hx hb d_AL_add_5 rfl ?_
  refine zz_iadd hx hb d_AL_add_6 ?_
  refine fw_put (ci := 6) (v := .int (iZ (mo + 1))) (ty := .int) (C := rAL) (T := fAL) (N := 3) hx hb hts iAL yAL_t yAL_ok yAL_nm hown hK hF ha rfl 0 (by decide) (hts _ t_85) (fun x9 h9 => u_same (hts _ t_86) x9 h9) rfl (by decide +kernel) rfl rfl (Nat.le_of_ble_eq_true rfl) d_AL_add_7 (fun H locs hF => ?_)
  obtain ⟨w1, ew1⟩ : ∃ zw : fw, zw = fU w a (.inr (6, [.int (iZ (mo + 1)), .ref g.2.2.2, .int (iZ 0)])) := ⟨_, rfl⟩
  have hF := fW_to ew1 hF
  have h2 : w1 a = some (.inr (6, [.int (iZ (mo + 1)), .ref g.2.2.2, .int (iZ 0)])) := by rw [ew1]; exact fU_s _ _ _
  have h3 : w1 v = some (.inr (ci, vs)) := by rw [ew1]; exact fU_k hva hv
  refine lv_aload_n hx hb d_AL_add_10 rfl (lv_at hl 0 rfl) ?_
  refine lv_aload_n hx hb d_AL_add_11 rfl (lv_at hl 1 rfl) ?_
  refine lv_aload_n hx hb d_AL_add_12 rfl (lv_at hl 0 rfl) ?_
  refine fw_get (ci := 6) (v := .ref g.2.2.2) (C := rAL) (T := fAL) (N := 3) hx hb hts iAL hown hK hF.1 h2 rfl 1 (by decide) (hts _ t_82) (fun _ h9 => h9) rfl d_AL_add_13 ?_
  refine lv_aload_n hx hb d_AL_add_16 rfl (lv_at hl 0 rfl) ?_
  refine fw_get (ci := 6) (v := .int (iZ 0)) (C := rAL) (T := fAL) (N := 3) hx hb hts iAL hown hK hF.1 h2 rfl 2 (by decide) (hts _ t_83) (fun _ h9 => h9) rfl d_AL_add_17 ?_
  refine fw_callv (va_runV (As := [.ref v, .ref g.2.2.2, .int (iZ 0)]) (rest := []) ⟨hx, hb, hml, hown, hts⟩ (c_AL_add3F l g w1 H.size a v (mo + 1) ci vs rr h2 h3 hc hca hva) (cwV 3 hts (gdV k_AL_add_Ljaval t_228 t_230 t_0 t_48) rfl rfl rfl (by decide +kernel) ⟨Nat.le_of_ble_eq_true rfl, Nat.le_of_ble_eq_true rfl⟩) ⟨rwP_blind, fw_recv hK hF.1 h2 rfl, rwP_pre hK hT hA hF⟩ rfl rfl hl.1 rfl (lv_room (Nat.le_of_ble_eq_true rfl)) d_AL_add_20 ⟨by decide, by decide⟩) hF hA (fun w4 H locs hp5 hz hF => ?_)
  obtain ⟨q6, k1, k2, k3, k4⟩ := hp5
  have h7 : w4 v = some (.inr (ci, vs)) := (k4 v hva (fw_new_ne h3 k1)).trans h3
  have n8 : w q6 = none := fU_none (by rw [← ew1]; exact k1)
  refine lv_iconst (v := iZ 1) hx hb d_AL_add_23 rfl ?_
  exact rw_zret hx hb hr (by decide) hlocks d_AL_add_24 (by omega) (by omega) hF ⟨q6, n8, k2, k3, (fun q x0 x1 => by rw [k4 q x0 x1, ew1, fU_n x0])⟩

set_option maxHeartbeats 4000000 in
set_option maxRecDepth 100000 in
theorem c_AL_add3R (l : Launch) (g : GG) (w : fw) (sz : Nat) (a v te : Nat) (mo : Int) (n : Nat) (qf : Nat → Option Nat) (ci : Nat) (vs : List Value) (rr : vw_C) (ha : w a = some (.inr (6, [.int (iZ mo), .ref te, .int (iZ ((n : Int)))]))) (hv : w v = some (.inr (ci, vs))) (hc : vwCl[ci]? = some rr) (hca : Cond.castable rr.1 obj ∈ nwL) (hva : v ≠ a) (hte : w te = some (aQ g.2.2.1 10 qf)) (hn : n < 10) : RWv l y_AL_add_Ljaval w_AL_add_Ljaval ({ frames := 0, cells := 0, slots := 0, locals := 0 }) g w sz [.ref a, .ref v, .ref te, .int (iZ ((n : Int)))] 0 0 ((fun w1 => w1 a = some (.inr (6, [.int (iZ mo), .ref te, .int (iZ ((n : Int) + 1))])) ∧ w1 te = some (aQ g.2.2.1 10 (va_up qf n (some v))) ∧ (∀ q, q ≠ a → q ≠ te → w1 q = w q))) := by
  refine rw_go (by decide) rfl (Nat.le_of_ble_eq_true rfl) ?_
  intro p e s m below meth c hx hb hr hml hown hts hlocks hin hsz hK hT hA hF ls hl
  subst hsz
  have hown : s.vm.findClass rAL = some m.cls := hown
  have hl : lv_has ls 4 [(0, .ref a), (1, .ref v), (2, .ref te), (3, .int (iZ ((n : Int))))] := hl
  refine lv_iload_n hx hb d_AL_add_Ljaval_0 rfl (lv_at hl 3 rfl) ?_
  refine lv_aload_n hx hb d_AL_add_Ljaval_1 rfl (lv_at hl 2 rfl) ?_
  refine fw_qlen hx hb hK hF.1 hte d_AL_add_Ljaval_2 ?_
  refine zz_icmp_ne (tgt := 11) hx hb d_AL_add_Ljaval_3 (by decide) ⟨by omega, by omega⟩ ⟨by omega, by omega⟩ (fun c3 => ?_) (fun c3 => ?_)
  · refine lv_aload_n hx hb d_AL_add_Ljaval_11 rfl (lv_at hl 2 rfl) ?_
    refine lv_iload_n hx hb d_AL_add_Ljaval_12 rfl (lv_at hl 3 rfl) ?_
    refine lv_aload_n hx hb d_AL_add_Ljaval_13 rfl (lv_at hl 1 rfl) ?_
    refine fw_qast hx hb hK hF hte (by decide) hv hc hca n rfl (by omega) d_AL_add_Ljaval_14 (fun H locs hF => ?_)
    obtain ⟨w1, ew1⟩ : ∃ zw : fw, zw = fU w te (aQ g.2.2.1 10 (va_up qf n (some v))) := ⟨_, rfl⟩
    have hF := fW_to ew1 hF
    have h2 : w1 a = some (.inr (6, [.int (iZ mo), .ref te, .int (iZ ((n : Int)))])) := by rw [ew1]; exact fU_k (fw_ne ha hte ne_rl) ha
    have h3 : w1 v = some (.inr (ci, vs)) := by rw [ew1]; exact fU_k (fw_ne hv hte ne_rl) hv
    have h4 : w1 te = some (aQ g.2.2.1 10 (va_up qf n (some v))) := by rw [ew1]; exact fU_s _ _ _
    refine lv_aload_n hx hb d_AL_add_Ljaval_15 rfl (lv_at hl 0 rfl) ?_
    refine lv_iload_n hx hb d_AL_add_Ljaval_16 rfl (lv_at hl 3 rfl) ?_
    refine lv_iconst (v := iZ 1) hx hb d_AL_add_Ljaval_17 rfl ?_
    refine zz_iadd hx hb d_AL_add_Ljaval_18 ?_
    refine fw_put (ci := 6) (v := .int (iZ (((n : Int)) + 1))) (ty := .int) (C := rAL) (T := fAL) (N := 3) hx hb hts iAL yAL_t yAL_ok yAL_nm hown hK hF h2 rfl 2 (by decide) (hts _ t_83) (fun _ h9 => h9) rfl (by decide +kernel) rfl rfl (Nat.le_of_ble_eq_true rfl) d_AL_add_Ljaval_19 (fun H locs hF => ?_)
    obtain ⟨w5, ew5⟩ : ∃ zw : fw, zw = fU w1 a (.inr (6, [.int (iZ mo), .ref te, .int (iZ (((n : Int)) + 1))])) := ⟨_, rfl⟩
    have hF := fW_to ew5 hF
    have h6 : w5 a = some (.inr (6, [.int (iZ mo), .ref te, .int (iZ (((n : Int)) + 1))])) := by rw [ew5]; exact fU_s _ _ _
    have h7 : w5 v = some (.inr (ci, vs)) := by rw [ew5]; exact fU_k hva h3
    have h8 : w5 te = some (aQ g.2.2.1 10 (va_up qf n (some v))) := by rw [ew5]; exact fU_k (fw_ne h4 h2 ne_lr) h4
    exact rw_vret hx hb hr hlocks d_AL_add_Ljaval_22 (by omega) (by omega) hF ⟨h6, h8, (fun q x0 x1 => by rw [ew5, fU_n x0, ew1, fU_n x1])⟩
  · exfalso; omega

set_option maxHeartbeats 4000000 in
set_option maxRecDepth 100000 in
theorem c_AL_addR (l : Launch) (g : GG) (w : fw) (sz : Nat) (a v te : Nat) (mo : Int) (n : Nat) (qf : Nat → Option Nat) (ci : Nat) (vs : List Value) (rr : vw_C) (ha : w a = some (.inr (6, [.int (iZ mo), .ref te, .int (iZ ((n : Int)))]))) (hv : w v = some (.inr (ci, vs))) (hc : vwCl[ci]? = some rr) (hca : Cond.castable rr.1 obj ∈ nwL) (hva : v ≠ a) (hte : w te = some (aQ g.2.2.1 10 qf)) (hn : n < 10) : RWi l y_AL_add w_AL_add ({ frames := 1, cells := 0, slots := 0, locals := 23 }) g w sz [.ref a, .ref v] 0 0 ((fun _ w1 => w1 a = some (.inr (6, [.int (iZ (mo + 1)), .ref te, .int (iZ ((n : Int) + 1))])) ∧ w1 te = some (aQ g.2.2.1 10 (va_up qf n (some v))) ∧ (∀ q, q ≠ a → q ≠ te → w1 q = w q))) := by
  refine rw_go (by decide) rfl (Nat.le_of_ble_eq_true rfl) ?_
  intro p e s m below meth c hx hb hr hml hown hts hlocks hin hsz hK hT hA hF ls hl
  subst hsz
  have hown : s.vm.findClass rAL = some m.cls := hown
  have hl : lv_has ls 2 [(0, .ref a), (1, .ref v)] := hl
  refine lv_aload_n hx hb d_AL_add_0 rfl (lv_at hl 0 rfl) ?_
  refine lv_dup hx hb d_AL_add_1 rfl ?_
  refine fw_get (ci := 6) (v := .int (iZ mo)) (C := rAL) (T := fAL) (N := 3) hx hb hts iAL hown hK hF.1 ha rfl 0 (by decide) (hts _ t_85) (fun x9 h9 => u_same (hts _ t_86) x9 h9) rfl d_AL_add_2 ?_
  refine lv_iconst (v := iZ 1) hx hb d_AL_add_5 rfl ?_
  refine zz_iadd hx hb d_AL_add_6 ?_
  refine fw_put (ci := 6) (v := .int (iZ (mo + 1))) (ty := .int) (C := rAL) (T := fAL) (N := 3) hx hb hts iAL yAL_t yAL_ok yAL_nm hown hK hF ha rfl 0 (by decide) (hts _ t_85) (fun x9 h9 => u_same (hts _ t_86) x9 h9) rfl (by decide +kernel) rfl rfl (Nat.le_of_ble_eq_true rfl) d_AL_add_7 (fun H locs hF => ?_)
  obtain ⟨w1, ew1⟩ : ∃ zw : fw, zw = fU w a (.inr (6, [.int (iZ (mo + 1)), .ref te, .int (iZ ((n : Int)))])) := ⟨_, rfl⟩
  have hF := fW_to ew1 hF
  have h2 : w1 a = some (.inr (6, [.int (iZ (mo + 1)), .ref te, .int (iZ ((n : Int)))])) := by rw [ew1]; exact fU_s _ _ _
  have h3 : w1 v = some (.inr (ci, vs)) := by rw [ew1]; exact fU_k hva hv
  have h4 : w1 te = some (aQ g.2.2.1 10 qf) := by rw [ew1]; exact fU_k (fw_ne hte ha ne_lr) hte
  refine lv_aload_n hx hb d_AL_add_10 rfl (lv_at hl 0 rfl) ?_
  refine lv_aload_n hx hb d_AL_add_11 rfl (lv_at hl 1 rfl) ?_
  refine lv_aload_n hx hb d_AL_add_12 rfl (lv_at hl 0 rfl) ?_
  refine fw_get (ci := 6) (v := .ref te) (C := rAL) (T := fAL) (N := 3) hx hb hts iAL hown hK hF.1 h2 rfl 1 (by decide) (hts _ t_82) (fun _ h9 => h9) rfl d_AL_add_13 ?_
  refine lv_aload_n hx hb d_AL_add_16 rfl (lv_at hl 0 rfl) ?_
  refine fw_get (ci := 6) (v := .int (iZ ((n : Int)))) (C := rAL) (T := fAL) (N := 3) hx hb hts iAL hown hK hF.1 h2 rfl 2 (by decide) (hts _ t_83) (fun _ h9 => h9) rfl d_AL_add_17 ?_
  refine fw_callv (va_runV (As := [.ref v, .ref te, .int (iZ ((n : Int)))]) (rest := []) ⟨hx, hb, hml, hown, hts⟩ (c_AL_add3R l g w1 H.size a v te (mo + 1) n qf ci vs rr h2 h3 hc hca hva h4 hn) (cwV 3 hts (gdV k_AL_add_Ljaval t_228 t_230 t_0 t_48) rfl rfl rfl (by decide +kernel) ⟨Nat.le_of_ble_eq_true rfl, Nat.le_of_ble_eq_true rfl⟩) ⟨rwP_blind, fw_recv hK hF.1 h2 rfl, rwP_pre hK hT hA hF⟩ rfl rfl hl.1 rfl (lv_room (Nat.le_of_ble_eq_true rfl)) d_AL_add_20 ⟨by decide, by decide⟩) hF hA (fun w5 H locs hp6 hz hF => ?_)
  obtain ⟨k2, k3, k4⟩ := hp6
  have h7 : w5 v = some (.inr (ci, vs)) := (k4 v hva (fw_ne h3 h4 ne_rl)).trans h3
  refine lv_iconst (v := iZ 1) hx hb d_AL_add_23 rfl ?_
  exact rw_zret hx hb hr (by decide) hlocks d_AL_add_24 (by omega) (by omega) hF ⟨k2, k3, (fun q x0 x1 => by rw [k4 q x0 x1, ew1, fU_n x0])⟩
