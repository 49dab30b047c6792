set_option maxHeartbeats 4000000 in
set_option maxRecDepth 100000 in
theorem c_Ta_due (l : Launch) (g : GG) (w : fw) (t sl jq : Nat) (per cst ddl pri nxt : Int) (spo : Bool) (x : Int) (ht : w t = some (.inr (3, [.int (iZ per), .int (iZ cst), .int (iZ ddl), .int (iZ pri), .int (bZ spo), .ref sl, .ref jq, .int (iZ nxt)]))) (hr_0 : ir nxt) (hr_1 : ir x) : RO l y_Ta_isDueAt w_Ta_isDueAt ({ frames := 0, cells := 0, slots := 0, locals := 0 }) g w [.ref t, .int (iZ x)] (.int (bZ (decide (spo = false ∧ nxt = x)))) := by
  refine ro_go (by decide) rfl (Nat.le_of_ble_eq_true rfl) ?_
  intro p e s m below meth c hx hb hr hml hown hts hlocks hK hP ls hl
  have hown : s.vm.findClass rTa = some m.cls := hown
  have hl : lv_has ls 2 [(0, .ref t), (1, .int (iZ x))] := hl
  obtain ⟨hr_0a, hr_0b⟩ := hr_0
  obtain ⟨hr_1a, hr_1b⟩ := hr_1
  refine lv_aload_n hx hb d_Ta_isDueAt_0 rfl (lv_at hl 0 rfl) ?_
  refine fw_get (ci := 3) (v := .int (bZ spo)) (C := rTa) (T := fTa) (N := 8) hx hb hts iTa hown hK hP ht rfl 4 (by decide) (hts _ t_200) (fun _ h9 => h9) rfl d_Ta_isDueAt_1 ?_
  refine zb_if_ne (tgt := 19) hx hb d_Ta_isDueAt_4 (by decide) (fun c4 => ?_) (fun c4 => ?_)
  · refine lv_iconst (v := iZ 0) hx hb d_Ta_isDueAt_19 rfl ?_
    exact ro_zret hx hb hr hlocks d_Ta_isDueAt_20 (bz0 (decide_eq_false (fun z => by first | (have z1 := z.1; simp [c4] at z1; done) | omega)))
  · refine lv_aload_n hx hb d_Ta_isDueAt_7 rfl (lv_at hl 0 rfl) ?_
    refine fw_get (ci := 3) (v := .int (iZ nxt)) (C := rTa) (T := fTa) (N := 8) hx hb hts iTa hown hK hP ht rfl 7 (by decide) (hts _ t_206) (fun _ h9 => h9) rfl d_Ta_isDueAt_8 ?_
    refine lv_iload_n hx hb d_Ta_isDueAt_11 rfl (lv_at hl 1 rfl) ?_
    refine zz_icmp_ne (tgt := 19) hx hb d_Ta_isDueAt_12 (by decide) ⟨by omega, by omega⟩ ⟨by omega, by omega⟩ (fun c12 => ?_) (fun c12 => ?_)
    · refine lv_iconst (v := iZ 0) hx hb d_Ta_isDueAt_19 rfl ?_
      exact ro_zret hx hb hr hlocks d_Ta_isDueAt_20 (bz0 (decide_eq_false (fun z => by first | (have z1 := z.1; simp [c4] at z1; done) | omega)))
    · refine lv_iconst (v := iZ 1) hx hb d_Ta_isDueAt_15 rfl ?_
      refine lv_goto (tgt := 20) hx hb d_Ta_isDueAt_16 (by decide) ?_
      exact ro_zret hx hb hr hlocks d_Ta_isDueAt_20 (bz1 (decide_eq_true ⟨c4, by omega⟩))

set_option maxHeartbeats 4000000 in
set_option maxRecDepth 100000 in
theorem c_Ta_most (l : Launch) (g : GG) (w : fw) (t sl jq : Nat) (per cst ddl pri nxt : Int) (spo : Bool) (x : Int) (ht : w t = some (.inr (3, [.int (iZ per), .int (iZ cst), .int (iZ ddl), .int (iZ pri), .int (bZ spo), .ref sl, .ref jq, .int (iZ nxt)]))) (hp : 1 ≤ per ∧ per ≤ 60) (hx0 : 0 ≤ x ∧ x ≤ 1000) : RO l y_Ta_mostReleasesIn w_Ta_mostReleasesIn ({ frames := 0, cells := 0, slots := 0, locals := 0 }) g w [.ref t, .int (iZ x)] (.int (iZ ((x + per - 1) / per))) := by
  refine ro_go (by decide) rfl (Nat.le_of_ble_eq_true rfl) ?_
  intro p e s m below meth c hx hb hr hml hown hts hlocks hK hP ls hl
  have hown : s.vm.findClass rTa = some m.cls := hown
  have hl : lv_has ls 2 [(0, .ref t), (1, .int (iZ x))] := hl
  refine lv_aload_n hx hb d_Ta_mostReleasesIn_0 rfl (lv_at hl 0 rfl) ?_
  refine fw_get (ci := 3) (v := .int (iZ per)) (C := rTa) (T := fTa) (N := 8) hx hb hts iTa hown hK hP ht rfl 0 (by decide) (hts _ t_192) (fun _ h9 => h9) rfl d_Ta_mostReleasesIn_1 ?_
  refine lv_iconst (v := iZ 1) hx hb d_Ta_mostReleasesIn_4 rfl ?_
  refine zz_icmp_ge (tgt := 12) hx hb d_Ta_mostReleasesIn_5 (by decide) ⟨by omega, by omega⟩ ⟨by omega, by omega⟩ (fun c5 => ?_) (fun c5 => ?_)
  · refine lv_iload_n hx hb d_Ta_mostReleasesIn_12 rfl (lv_at hl 1 rfl) ?_
    refine lv_aload_n hx hb d_Ta_mostReleasesIn_13 rfl (lv_at hl 0 rfl) ?_
    refine fw_get (ci := 3) (v := .int (iZ per)) (C := rTa) (T := fTa) (N := 8) hx hb hts iTa hown hK hP ht rfl 0 (by decide) (hts _ t_192) (fun _ h9 => h9) rfl d_Ta_mostReleasesIn_14 ?_
    refine zz_iadd hx hb d_Ta_mostReleasesIn_17 ?_
    refine lv_iconst (v := iZ 1) hx hb d_Ta_mostReleasesIn_18 rfl ?_
    refine zz_isub hx hb d_Ta_mostReleasesIn_19 ?_
    refine lv_aload_n hx hb d_Ta_mostReleasesIn_20 rfl (lv_at hl 0 rfl) ?_
    refine fw_get (ci := 3) (v := .int (iZ per)) (C := rTa) (T := fTa) (N := 8) hx hb hts iTa hown hK hP ht rfl 0 (by decide) (hts _ t_192) (fun _ h9 => h9) rfl d_Ta_mostReleasesIn_21 ?_
    refine zz_idiv hx hb d_Ta_mostReleasesIn_24 (by omega) (by omega) (by omega) (by omega) ?_
    exact ro_iret hx hb hr hlocks d_Ta_mostReleasesIn_25 rfl
  · exfalso; omega

set_option maxHeartbeats 4000000 in
set_option maxRecDepth 100000 in
theorem c_Ta_held (l : Launch) (g : GG) (w : fw) (t sl se jq ra : Nat) (sc : Nat → Nat) (per cst ddl pri nxt : Int) (spo : Bool) (ns : Nat) (S : Nat → Int × Int × Int) (mo : Int) (qf : Nat → Option Nat) (fr nd uf rl lr dl gr : Int) (ht : w t = some (.inr (3, [.int (iZ per), .int (iZ cst), .int (iZ ddl), .int (iZ pri), .int (bZ spo), .ref sl, .ref jq, .int (iZ nxt)]))) (hsl : w sl = some (.inr (6, [.int (iZ mo), .ref se, .int (iZ ((ns : Int)))]))) (hns : ns ≤ 10) (hse : 0 < ns → w se = some (aQ g.2.2.1 10 qf)) (hqf : ∀ j, j < ns → qf j = some (sc j)) (hsc : ∀ j, j < ns → w (sc j) = some (.inr (2, [.int (iZ ((S j).1)), .int (iZ ((S j).2.1)), .int (iZ ((S j).2.2))]))) (hSr : ∀ j, j < ns → 0 ≤ (S j).1 ∧ (S j).1 ≤ 3 ∧ 0 ≤ (S j).2.1 ∧ (S j).2.1 ≤ 59 ∧ 1 ≤ (S j).2.2 ∧ (S j).2.2 ≤ 60) (hjq : w jq = some (.inr (1, [.ref ra, .int (iZ fr), .int (iZ nd), .int (iZ uf), .int (iZ rl), .int (iZ lr), .int (iZ dl), .int (iZ gr)]))) (hu : 0 ≤ uf ∧ uf ≤ 60) : RO l y_Ta_heldObject w_Ta_heldObject ({ frames := 3, cells := 0, slots := 0, locals := 64 }) g w [.ref t] (.int (iZ (hdO S uf ns 0))) := by
  refine ro_go (by decide) rfl (Nat.le_of_ble_eq_true rfl) ?_
  intro p e s m below meth c hx hb hr hml hown hts hlocks hK hP ls hl
  have hown : s.vm.findClass rTa = some m.cls := hown
  have hl : lv_has ls 3 [(0, .ref t)] := hl
  refine lv_iconst (v := iZ 0) hx hb d_Ta_heldObject_0 rfl ?_
  refine lv_istore_n (lv' := [(1, .int (iZ 0)), (0, .ref t)]) hx hb d_Ta_heldObject_1 rfl hl (by decide) rfl (fun ls hl => ?_)
  have lp : ∀ (f i : Nat), i + f = ns → (hdO S uf ns 0 = hdO S uf f i) → ∀ ls : Array Slot, lv_has ls 3 [(1, .int (iZ ((i : Int)))), (0, .ref t)] → W p l e ({ frames := 3, cells := 0, slots := 0, locals := 64 }) s m ([.ref t] : List Value).toArray below meth c s.heap [] 0 0 (MQ below (k2_QcV (.int (iZ (hdO S uf ns 0)))) ([.ref t] : List Value).toArray s 0 0 (fun _ => False)) (F0 m 2 ls []) := by
    intro f
    induction f with
    | zero =>
      intro i hif hv ls hl
      refine lv_iload_n hx hb d_Ta_heldObject_2 rfl (lv_at hl 0 rfl) ?_
      refine lv_aload_n hx hb d_Ta_heldObject_3 rfl (lv_at hl 1 rfl) ?_
      refine fw_get (ci := 3) (v := .ref sl) (C := rTa) (T := fTa) (N := 8) hx hb hts iTa hown hK hP ht rfl 5 (by decide) (hts _ t_202) (fun _ h9 => h9) rfl d_Ta_heldObject_4 ?_
      refine fw_ro (r := .int (iZ ((ns : Int)))) (va_runV (As := []) (rest := [.int (iZ ((i : Int)))]) ⟨hx, hb, hml, hown, hts⟩ (c_AL_size l g w sl se mo (ns : Int) hsl) (cwV 0 hts (gdV k_AL_size t_307 t_145 t_146 t_48) rfl rfl rfl (by decide +kernel) ⟨Nat.le_of_ble_eq_true rfl, Nat.le_of_ble_eq_true rfl⟩) ⟨roP_blind, fw_recv hK hP hsl rfl, roP_pre hK hP⟩ rfl rfl hl.1 rfl (lv_room (Nat.le_of_ble_eq_true rfl)) d_Ta_heldObject_7 ⟨by decide, by decide⟩) ?_
      refine zz_icmp_ge (tgt := 50) hx hb d_Ta_heldObject_10 (by decide) ⟨by omega, by omega⟩ ⟨by omega, by omega⟩ (fun c10 => ?_) (fun c10 => ?_)
      · refine lv_bipush (v := iZ (-3)) hx hb d_Ta_heldObject_50 (by decide) ?_
        exact ro_iret hx hb hr hlocks d_Ta_heldObject_52 (congrArg iZ (by rw [hv]; rfl))
      · exfalso; omega
    | succ f ih =>
      intro i hif hv ls hl
      refine lv_iload_n hx hb d_Ta_heldObject_2 rfl (lv_at hl 0 rfl) ?_
      refine lv_aload_n hx hb d_Ta_heldObject_3 rfl (lv_at hl 1 rfl) ?_
      refine fw_get (ci := 3) (v := .ref sl) (C := rTa) (T := fTa) (N := 8) hx hb hts iTa hown hK hP ht rfl 5 (by decide) (hts _ t_202) (fun _ h9 => h9) rfl d_Ta_heldObject_4 ?_
      refine fw_ro (r := .int (iZ ((ns : Int)))) (va_runV (As := []) (rest := [.int (iZ ((i : Int)))]) ⟨hx, hb, hml, hown, hts⟩ (c_AL_size l g w sl se mo (ns : Int) hsl) (cwV 0 hts (gdV k_AL_size t_307 t_145 t_146 t_48) rfl rfl rfl (by decide +kernel) ⟨Nat.le_of_ble_eq_true rfl, Nat.le_of_ble_eq_true rfl⟩) ⟨roP_blind, fw_recv hK hP hsl rfl, roP_pre hK hP⟩ rfl rfl hl.1 rfl (lv_room (Nat.le_of_ble_eq_true rfl)) d_Ta_heldObject_7 ⟨by decide, by decide⟩) ?_
      refine zz_icmp_ge (tgt := 50) hx hb d_Ta_heldObject_10 (by decide) ⟨by omega, by omega⟩ ⟨by omega, by omega⟩ (fun c10 => ?_) (fun c10 => ?_)
      · exfalso; omega
      · refine lv_aload_n hx hb d_Ta_heldObject_13 rfl (lv_at hl 1 rfl) ?_
        refine fw_get (ci := 3) (v := .ref sl) (C := rTa) (T := fTa) (N := 8) hx hb hts iTa hown hK hP ht rfl 5 (by decide) (hts _ t_202) (fun _ h9 => h9) rfl d_Ta_heldObject_14 ?_
        refine lv_iload_n hx hb d_Ta_heldObject_17 rfl (lv_at hl 0 rfl) ?_
        refine fw_ro (r := .ref (sc i)) (va_runV (As := [.int (iZ ((i : Int)))]) (rest := []) ⟨hx, hb, hml, hown, hts⟩ (c_AL_get l g w sl se mo ns qf i (sc i) hsl (hse (by omega)) (by omega) (by omega) (hqf i (by omega))) (cwV 1 hts (gdV k_AL_get t_308 t_290 t_291 t_48) rfl rfl rfl (by decide +kernel) ⟨Nat.le_of_ble_eq_true rfl, Nat.le_of_ble_eq_true rfl⟩) ⟨roP_blind, fw_recv hK hP hsl rfl, roP_pre hK hP⟩ rfl rfl hl.1 rfl (lv_room (Nat.le_of_ble_eq_true rfl)) d_Ta_heldObject_18 ⟨by decide, by decide⟩) ?_
        have hsi := hsc i (by omega)
        have hSi := hSr i (by omega)
        refine fw_cast (T := fSe) (N := 3) hx hb hown (hts _ t_309) hK hP hsi rfl d_Ta_heldObject_21 ?_
        refine lv_astore_n (lv' := [(2, .ref (sc i)), (1, .int (iZ ((i : Int)))), (0, .ref t)]) hx hb d_Ta_heldObject_24 rfl hl (by decide) rfl (fun ls hl => ?_)
        refine lv_aload_n hx hb d_Ta_heldObject_25 rfl (lv_at hl 0 rfl) ?_
        refine lv_aload_n hx hb d_Ta_heldObject_26 rfl (lv_at hl 2 rfl) ?_
        refine fw_get (ci := 3) (v := .ref jq) (C := rTa) (T := fTa) (N := 8) hx hb hts iTa hown hK hP ht rfl 6 (by decide) (hts _ t_204) (fun _ h9 => h9) rfl d_Ta_heldObject_27 ?_
        refine fw_getN (ci := 1) (v := .int (iZ uf)) (C := rJq) (T := fJq) (N := 8) (index := 49) (ref := "CeilingScheduler$JobQueue") (host := "CeilingScheduler") hx hb hts iJq hown hK hP hjq rfl 3 (by decide) n_166 (fun _ h9 => h9) rfl d_Ta_heldObject_30 ?_
        refine fw_ro (r := .int (bZ (decide ((S i).2.1 < uf ∧ uf < (S i).2.1 + (S i).2.2)))) (va_runVN (As := [.int (iZ uf)]) (rest := []) ⟨hx, hb, hml, hown, hts⟩ (c_Se_held l g w (sc i) (S i).1 (S i).2.1 (S i).2.2 uf hsi ⟨by omega, by omega⟩ ⟨by omega, by omega⟩ ⟨by omega, by omega⟩) ⟨va_cnB 1 hts (gdT k_Se_isHeldAfter) rfl rfl rfl (hK.2.1 _ n_409) (hts _ t_59) (by decide +kernel) ⟨Nat.le_of_ble_eq_true rfl, Nat.le_of_ble_eq_true rfl⟩, hts _ t_411, hts _ t_19⟩ ⟨roP_blind, fw_recv hK hP hsi rfl, roP_pre hK hP⟩ rfl rfl hl.1 rfl (lv_room (Nat.le_of_ble_eq_true rfl)) d_Ta_heldObject_33 ⟨by decide, by decide⟩) ?_
        refine zb_if_eq (tgt := 44) hx hb d_Ta_heldObject_36 (by decide) (fun c36 => ?_) (fun c36 => ?_)
        · refine lv_iinc (v := iZ (((i : Int)) + 1)) (lv' := [(1, .int (iZ (((i : Int)) + 1))), (2, .ref (sc i)), (0, .ref t)]) hx hb d_Ta_heldObject_44 hl (k := 1) rfl (iZ_add _ _) (by decide) rfl (fun ls hl => ?_)
          refine lv_goto (tgt := 2) hx hb d_Ta_heldObject_47 (by decide) ?_
          exact ih (i + 1) (by omega) (by rw [hv, hdO, if_neg (of_decide_eq_false c36)]) ls (lv_sub hl [0, 2] rfl)
        · refine lv_aload_n hx hb d_Ta_heldObject_39 rfl (lv_at hl 0 rfl) ?_
          refine fw_getN (ci := 2) (v := .int (iZ ((S i).1))) (C := rSe) (T := fSe) (N := 3) (index := 72) (ref := "CeilingScheduler$Section") (host := "CeilingScheduler") hx hb hts iSe hown hK hP hsi rfl 0 (by decide) n_330 (fun _ h9 => h9) rfl d_Ta_heldObject_40 ?_
          exact ro_iret hx hb hr hlocks d_Ta_heldObject_43 (congrArg iZ (by rw [hv, hdO, if_pos (of_decide_eq_true c36)]))
  exact lp ns 0 (by omega) rfl ls (lv_sub hl [0, 1] rfl)

set_option maxHeartbeats 4000000 in
set_option maxRecDepth 100000 in
theorem c_Ta_secOn (l : Launch) (g : GG) (w : fw) (t sl se jq ra : Nat) (sc : Nat → Nat) (per cst ddl pri nxt : Int) (spo : Bool) (ns : Nat) (S : Nat → Int × Int × Int) (mo : Int) (qf : Nat → Option Nat) (fr nd uf rl lr dl gr : Int) (ob : Int) (ht : w t = some (.inr (3, [.int (iZ per), .int (iZ cst), .int (iZ ddl), .int (iZ pri), .int (bZ spo), .ref sl, .ref jq, .int (iZ nxt)]))) (hsl : w sl = some (.inr (6, [.int (iZ mo), .ref se, .int (iZ ((ns : Int)))]))) (hns : ns ≤ 10) (hse : 0 < ns → w se = some (aQ g.2.2.1 10 qf)) (hqf : ∀ j, j < ns → qf j = some (sc j)) (hsc : ∀ j, j < ns → w (sc j) = some (.inr (2, [.int (iZ ((S j).1)), .int (iZ ((S j).2.1)), .int (iZ ((S j).2.2))]))) (hSr : ∀ j, j < ns → 0 ≤ (S j).1 ∧ (S j).1 ≤ 3 ∧ 0 ≤ (S j).2.1 ∧ (S j).2.1 ≤ 59 ∧ 1 ≤ (S j).2.2 ∧ (S j).2.2 ≤ 60) (hr_0 : ir ob) : RO l y_Ta_hasSectionOn w_Ta_hasSectionOn ({ frames := 3, cells := 0, slots := 0, locals := 64 }) g w [.ref t, .int (iZ ob)] (.int (bZ (hsO S ob ns 0))) := by
  refine ro_go (by decide) rfl (Nat.le_of_ble_eq_true rfl) ?_
  intro p e s m below meth c hx hb hr hml hown hts hlocks hK hP ls hl
  have hown : s.vm.findClass rTa = some m.cls := hown
  have hl : lv_has ls 3 [(0, .ref t), (1, .int (iZ ob))] := hl
  obtain ⟨hr_0a, hr_0b⟩ := hr_0
  refine lv_iconst (v := iZ 0) hx hb d_Ta_hasSectionOn_0 rfl ?_
  refine lv_istore_n (lv' := [(2, .int (iZ 0)), (0, .ref t), (1, .int (iZ ob))]) hx hb d_Ta_hasSectionOn_1 rfl hl (by decide) rfl (fun ls hl => ?_)
  have lp : ∀ (f i : Nat), i + f = ns → (hsO S ob ns 0 = hsO S ob f i) → ∀ ls : Array Slot, lv_has ls 3 [(2, .int (iZ ((i : Int)))), (0, .ref t), (1, .int (iZ ob))] → W p l e ({ frames := 3, cells := 0, slots := 0, locals := 64 }) s m ([.ref t, .int (iZ ob)] : List Value).toArray below meth c s.heap [] 0 0 (MQ below (k2_QcV (.int (bZ (hsO S ob ns 0)))) ([.ref t, .int (iZ ob)] : List Value).toArray s 0 0 (fun _ => False)) (F0 m 2 ls []) := by
    intro f
    induction f with
    | zero =>
      intro i hif hv ls hl
      refine lv_iload_n hx hb d_Ta_hasSectionOn_2 rfl (lv_at hl 0 rfl) ?_
      refine lv_aload_n hx hb d_Ta_hasSectionOn_3 rfl (lv_at hl 1 rfl) ?_
      refine fw_get (ci := 3) (v := .ref sl) (C := rTa) (T := fTa) (N := 8) hx hb hts iTa hown hK hP ht rfl 5 (by decide) (hts _ t_202) (fun _ h9 => h9) rfl d_Ta_hasSectionOn_4 ?_
      refine fw_ro (r := .int (iZ ((ns : Int)))) (va_runV (As := []) (rest := [.int (iZ ((i : Int)))]) ⟨hx, hb, hml, hown, hts⟩ (c_AL_size l g w sl se mo (ns : Int) hsl) (cwV 0 hts (gdV k_AL_size t_307 t_145 t_146 t_48) rfl rfl rfl (by decide +kernel) ⟨Nat.le_of_ble_eq_true rfl, Nat.le_of_ble_eq_true rfl⟩) ⟨roP_blind, fw_recv hK hP hsl rfl, roP_pre hK hP⟩ rfl rfl hl.1 rfl (lv_room (Nat.le_of_ble_eq_true rfl)) d_Ta_hasSectionOn_7 ⟨by decide, by decide⟩) ?_
      refine zz_icmp_ge (tgt := 39) hx hb d_Ta_hasSectionOn_10 (by decide) ⟨by omega, by omega⟩ ⟨by omega, by omega⟩ (fun c10 => ?_) (fun c10 => ?_)
      · refine lv_iconst (v := iZ 0) hx hb d_Ta_hasSectionOn_39 rfl ?_
        exact ro_zret hx hb hr hlocks d_Ta_hasSectionOn_40 (bz0 (by rw [hv]; rfl))
      · exfalso; omega
    | succ f ih =>
      intro i hif hv ls hl
      refine lv_iload_n hx hb d_Ta_hasSectionOn_2 rfl (lv_at hl 0 rfl) ?_
      refine lv_aload_n hx hb d_Ta_hasSectionOn_3 rfl (lv_at hl 1 rfl) ?_
      refine fw_get (ci := 3) (v := .ref sl) (C := rTa) (T := fTa) (N := 8) hx hb hts iTa hown hK hP ht rfl 5 (by decide) (hts _ t_202) (fun _ h9 => h9) rfl d_Ta_hasSectionOn_4 ?_
      refine fw_ro (r := .int (iZ ((ns : Int)))) (va_runV (As := []) (rest := [.int (iZ ((i : Int)))]) ⟨hx, hb, hml, hown, hts⟩ (c_AL_size l g w sl se mo (ns : Int) hsl) (cwV 0 hts (gdV k_AL_size t_307 t_145 t_146 t_48) rfl rfl rfl (by decide +kernel) ⟨Nat.le_of_ble_eq_true rfl, Nat.le_of_ble_eq_true rfl⟩) ⟨roP_blind, fw_recv hK hP hsl rfl, roP_pre hK hP⟩ rfl rfl hl.1 rfl (lv_room (Nat.le_of_ble_eq_true rfl)) d_Ta_hasSectionOn_7 ⟨by decide, by decide⟩) ?_
      refine zz_icmp_ge (tgt := 39) hx hb d_Ta_hasSectionOn_10 (by decide) ⟨by omega, by omega⟩ ⟨by omega, by omega⟩ (fun c10 => ?_) (fun c10 => ?_)
      · exfalso; omega
      · refine lv_aload_n hx hb d_Ta_hasSectionOn_13 rfl (lv_at hl 1 rfl) ?_
        refine fw_get (ci := 3) (v := .ref sl) (C := rTa) (T := fTa) (N := 8) hx hb hts iTa hown hK hP ht rfl 5 (by decide) (hts _ t_202) (fun _ h9 => h9) rfl d_Ta_hasSectionOn_14 ?_
        refine lv_iload_n hx hb d_Ta_hasSectionOn_17 rfl (lv_at hl 0 rfl) ?_
        refine fw_ro (r := .ref (sc i)) (va_runV (As := [.int (iZ ((i : Int)))]) (rest := []) ⟨hx, hb, hml, hown, hts⟩ (c_AL_get l g w sl se mo ns qf i (sc i) hsl (hse (by omega)) (by omega) (by omega) (hqf i (by omega))) (cwV 1 hts (gdV k_AL_get t_308 t_290 t_291 t_48) rfl rfl rfl (by decide +kernel) ⟨Nat.le_of_ble_eq_true rfl, Nat.le_of_ble_eq_true rfl⟩) ⟨roP_blind, fw_recv hK hP hsl rfl, roP_pre hK hP⟩ rfl rfl hl.1 rfl (lv_room (Nat.le_of_ble_eq_true rfl)) d_Ta_hasSectionOn_18 ⟨by decide, by decide⟩) ?_
        have hsi := hsc i (by omega)
        have hSi := hSr i (by omega)
        refine fw_cast (T := fSe) (N := 3) hx hb hown (hts _ t_309) hK hP hsi rfl d_Ta_hasSectionOn_21 ?_
        refine fw_getN (ci := 2) (v := .int (iZ ((S i).1))) (C := rSe) (T := fSe) (N := 3) (index := 72) (ref := "CeilingScheduler$Section") (host := "CeilingScheduler") hx hb hts iSe hown hK hP hsi rfl 0 (by decide) n_330 (fun _ h9 => h9) rfl d_Ta_hasSectionOn_24 ?_
        refine lv_iload_n hx hb d_Ta_hasSectionOn_27 rfl (lv_at hl 2 rfl) ?_
        refine zz_icmp_ne (tgt := 33) hx hb d_Ta_hasSectionOn_28 (by decide) ⟨by omega, by omega⟩ ⟨by omega, by omega⟩ (fun c28 => ?_) (fun c28 => ?_)
        · refine lv_iinc (v := iZ (((i : Int)) + 1)) (lv' := [(2, .int (iZ (((i : Int)) + 1))), (0, .ref t), (1, .int (iZ ob))]) hx hb d_Ta_hasSectionOn_33 hl (k := 0) rfl (iZ_add _ _) (by decide) rfl (fun ls hl => ?_)
          refine lv_goto (tgt := 2) hx hb d_Ta_hasSectionOn_36 (by decide) ?_
          exact ih (i + 1) (by omega) (by rw [hv, hsO, if_neg c28]) ls (lv_sub hl [0, 1, 2] rfl)
        · refine lv_iconst (v := iZ 1) hx hb d_Ta_hasSectionOn_31 rfl ?_
          exact ro_zret hx hb hr hlocks d_Ta_hasSectionOn_32 (bz1 (by rw [hv, hsO, if_pos c28]))
  exact lp ns 0 (by omega) rfl ls (lv_sub hl [0, 1, 2] rfl)

set_option maxHeartbeats 4000000 in
set_option maxRecDepth 100000 in
theorem c_Ta_secIn (l : Launch) (g : GG) (w : fw) (t sl se jq ra : Nat) (sc : Nat → Nat) (per cst ddl pri nxt : Int) (spo : Bool) (ns : Nat) (S : Nat → Int × Int × Int) (mo : Int) (qf : Nat → Option Nat) (fr nd uf rl lr dl gr : Int) (x y : Int) (ht : w t = some (.inr (3, [.int (iZ per), .int (iZ cst), .int (iZ ddl), .int (iZ pri), .int (bZ spo), .ref sl, .ref jq, .int (iZ nxt)]))) (hsl : w sl = some (.inr (6, [.int (iZ mo), .ref se, .int (iZ ((ns : Int)))]))) (hns : ns ≤ 10) (hse : 0 < ns → w se = some (aQ g.2.2.1 10 qf)) (hqf : ∀ j, j < ns → qf j = some (sc j)) (hsc : ∀ j, j < ns → w (sc j) = some (.inr (2, [.int (iZ ((S j).1)), .int (iZ ((S j).2.1)), .int (iZ ((S j).2.2))]))) (hSr : ∀ j, j < ns → 0 ≤ (S j).1 ∧ (S j).1 ≤ 3 ∧ 0 ≤ (S j).2.1 ∧ (S j).2.1 ≤ 59 ∧ 1 ≤ (S j).2.2 ∧ (S j).2.2 ≤ 60) (hr_0 : ir x) (hr_1 : ir y) : RO l y_Ta_hasSectionWithin w_Ta_hasSectionWithin ({ frames := 3, cells := 0, slots := 0, locals := 64 }) g w [.ref t, .int (iZ x), .int (iZ y)] (.int (bZ (hsW S x y ns 0))) := by
  refine ro_go (by decide) rfl (Nat.le_of_ble_eq_true rfl) ?_
  intro p e s m below meth c hx hb hr hml hown hts hlocks hK hP ls hl
  have hown : s.vm.findClass rTa = some m.cls := hown
  have hl : lv_has ls 5 [(0, .ref t), (1, .int (iZ x)), (2, .int (iZ y))] := hl
  obtain ⟨hr_0a, hr_0b⟩ := hr_0
  obtain ⟨hr_1a, hr_1b⟩ := hr_1
  refine lv_iconst (v := iZ 0) hx hb d_Ta_hasSectionWithin_0 rfl ?_
  refine lv_istore_n (lv' := [(3, .int (iZ 0)), (0, .ref t), (1, .int (iZ x)), (2, .int (iZ y))]) hx hb d_Ta_hasSectionWithin_1 rfl hl (by decide) rfl (fun ls hl => ?_)
  have lp : ∀ (f i : Nat), i + f = ns → (hsW S x y ns 0 = hsW S x y f i) → ∀ ls : Array Slot, lv_has ls 5 [(3, .int (iZ ((i : Int)))), (0, .ref t), (1, .int (iZ x)), (2, .int (iZ y))] → W p l e ({ frames := 3, cells := 0, slots := 0, locals := 64 }) s m ([.ref t, .int (iZ x), .int (iZ y)] : List Value).toArray below meth c s.heap [] 0 0 (MQ below (k2_QcV (.int (bZ (hsW S x y ns 0)))) ([.ref t, .int (iZ x), .int (iZ y)] : List Value).toArray s 0 0 (fun _ => False)) (F0 m 2 ls []) := by
    intro f
    induction f with
    | zero =>
      intro i hif hv ls hl
      refine lv_iload_n hx hb d_Ta_hasSectionWithin_2 rfl (lv_at hl 0 rfl) ?_
      refine lv_aload_n hx hb d_Ta_hasSectionWithin_3 rfl (lv_at hl 1 rfl) ?_
      refine fw_get (ci := 3) (v := .ref sl) (C := rTa) (T := fTa) (N := 8) hx hb hts iTa hown hK hP ht rfl 5 (by decide) (hts _ t_202) (fun _ h9 => h9) rfl d_Ta_hasSectionWithin_4 ?_
      refine fw_ro (r := .int (iZ ((ns : Int)))) (va_runV (As := []) (rest := [.int (iZ ((i : Int)))]) ⟨hx, hb, hml, hown, hts⟩ (c_AL_size l g w sl se mo (ns : Int) hsl) (cwV 0 hts (gdV k_AL_size t_307 t_145 t_146 t_48) rfl rfl rfl (by decide +kernel) ⟨Nat.le_of_ble_eq_true rfl, Nat.le_of_ble_eq_true rfl⟩) ⟨roP_blind, fw_recv hK hP hsl rfl, roP_pre hK hP⟩ rfl rfl hl.1 rfl (lv_room (Nat.le_of_ble_eq_true rfl)) d_Ta_hasSectionWithin_7 ⟨by decide, by decide⟩) ?_
      refine zz_icmp_ge (tgt := 58) hx hb d_Ta_hasSectionWithin_10 (by decide) ⟨by omega, by omega⟩ ⟨by omega, by omega⟩ (fun c10 => ?_) (fun c10 => ?_)
      · refine lv_iconst (v := iZ 0) hx hb d_Ta_hasSectionWithin_58 rfl ?_
        exact ro_zret hx hb hr hlocks d_Ta_hasSectionWithin_59 (bz0 (by rw [hv]; rfl))
      · exfalso; omega
    | succ f ih =>
      intro i hif hv ls hl
      refine lv_iload_n hx hb d_Ta_hasSectionWithin_2 rfl (lv_at hl 0 rfl) ?_
      refine lv_aload_n hx hb d_Ta_hasSectionWithin_3 rfl (lv_at hl 1 rfl) ?_
      refine fw_get (ci := 3) (v := .ref sl) (C := rTa) (T := fTa) (N := 8) hx hb hts iTa hown hK hP ht rfl 5 (by decide) (hts _ t_202) (fun _ h9 => h9) rfl d_Ta_hasSectionWithin_4 ?_
      refine fw_ro (r := .int (iZ ((ns : Int)))) (va_runV (As := []) (rest := [.int (iZ ((i : Int)))]) ⟨hx, hb, hml, hown, hts⟩ (c_AL_size l g w sl se mo (ns : Int) hsl) (cwV 0 hts (gdV k_AL_size t_307 t_145 t_146 t_48) rfl rfl rfl (by decide +kernel) ⟨Nat.le_of_ble_eq_true rfl, Nat.le_of_ble_eq_true rfl⟩) ⟨roP_blind, fw_recv hK hP hsl rfl, roP_pre hK hP⟩ rfl rfl hl.1 rfl (lv_room (Nat.le_of_ble_eq_true rfl)) d_Ta_hasSectionWithin_7 ⟨by decide, by decide⟩) ?_
      refine zz_icmp_ge (tgt := 58) hx hb d_Ta_hasSectionWithin_10 (by decide) ⟨by omega, by omega⟩ ⟨by omega, by omega⟩ (fun c10 => ?_) (fun c10 => ?_)
      · exfalso; omega
      · refine lv_aload_n hx hb d_Ta_hasSectionWithin_13 rfl (lv_at hl 1 rfl) ?_
        refine fw_get (ci := 3) (v := .ref sl) (C := rTa) (T := fTa) (N := 8) hx hb hts iTa hown hK hP ht rfl 5 (by decide) (hts _ t_202) (fun _ h9 => h9) rfl d_Ta_hasSectionWithin_14 ?_
        refine lv_iload_n hx hb d_Ta_hasSectionWithin_17 rfl (lv_at hl 0 rfl) ?_
        refine fw_ro (r := .ref (sc i)) (va_runV (As := [.int (iZ ((i : Int)))]) (rest := []) ⟨hx, hb, hml, hown, hts⟩ (c_AL_get l g w sl se mo ns qf i (sc i) hsl (hse (by omega)) (by omega) (by omega) (hqf i (by omega))) (cwV 1 hts (gdV k_AL_get t_308 t_290 t_291 t_48) rfl rfl rfl (by decide +kernel) ⟨Nat.le_of_ble_eq_true rfl, Nat.le_of_ble_eq_true rfl⟩) ⟨roP_blind, fw_recv hK hP hsl rfl, roP_pre hK hP⟩ rfl rfl hl.1 rfl (lv_room (Nat.le_of_ble_eq_true rfl)) d_Ta_hasSectionWithin_18 ⟨by decide, by decide⟩) ?_
        have hsi := hsc i (by omega)
        have hSi := hSr i (by omega)
        refine fw_cast (T := fSe) (N := 3) hx hb hown (hts _ t_309) hK hP hsi rfl d_Ta_hasSectionWithin_21 ?_
        refine lv_astore (lv' := [(4, .ref (sc i)), (3, .int (iZ ((i : Int)))), (0, .ref t), (1, .int (iZ x)), (2, .int (iZ y))]) hx hb d_Ta_hasSectionWithin_24 hl (by decide) rfl (fun ls hl => ?_)
        refine lv_iload_n hx hb d_Ta_hasSectionWithin_26 rfl (lv_at hl 3 rfl) ?_
        refine lv_aload hx hb d_Ta_hasSectionWithin_27 (lv_at hl 0 rfl) ?_
        refine fw_getN (ci := 2) (v := .int (iZ ((S i).2.1))) (C := rSe) (T := fSe) (N := 3) (index := 66) (ref := "CeilingScheduler$Section") (host := "CeilingScheduler") hx hb hts iSe hown hK hP hsi rfl 1 (by decide) n_333 (fun _ h9 => h9) rfl d_Ta_hasSectionWithin_29 ?_
        refine lv_aload hx hb d_Ta_hasSectionWithin_32 (lv_at hl 0 rfl) ?_
        refine fw_getN (ci := 2) (v := .int (iZ ((S i).2.2))) (C := rSe) (T := fSe) (N := 3) (index := 69) (ref := "CeilingScheduler$Section") (host := "CeilingScheduler") hx hb hts iSe hown hK hP hsi rfl 2 (by decide) n_335 (fun _ h9 => h9) rfl d_Ta_hasSectionWithin_34 ?_
        refine zz_iadd hx hb d_Ta_hasSectionWithin_37 ?_
        refine zz_icmp_ge (tgt := 52) hx hb d_Ta_hasSectionWithin_38 (by decide) ⟨by omega, by omega⟩ ⟨by omega, by omega⟩ (fun c38 => ?_) (fun c38 => ?_)
        · refine lv_iinc (v := iZ (((i : Int)) + 1)) (lv' := [(3, .int (iZ (((i : Int)) + 1))), (4, .ref (sc i)), (0, .ref t), (1, .int (iZ x)), (2, .int (iZ y))]) hx hb d_Ta_hasSectionWithin_52 hl (k := 1) rfl (iZ_add _ _) (by decide) rfl (fun ls hl => ?_)
          refine lv_goto (tgt := 2) hx hb d_Ta_hasSectionWithin_55 (by decide) ?_
          exact ih (i + 1) (by omega) (by rw [hv, hsW, if_neg (by omega)]) ls (lv_sub hl [0, 2, 3, 4] rfl)
        · refine lv_aload hx hb d_Ta_hasSectionWithin_41 (lv_at hl 0 rfl) ?_
          refine fw_getN (ci := 2) (v := .int (iZ ((S i).2.1))) (C := rSe) (T := fSe) (N := 3) (index := 66) (ref := "CeilingScheduler$Section") (host := "CeilingScheduler") hx hb hts iSe hown hK hP hsi rfl 1 (by decide) n_333 (fun _ h9 => h9) rfl d_Ta_hasSectionWithin_43 ?_
          refine lv_iload_n hx hb d_Ta_hasSectionWithin_46 rfl (lv_at hl 4 rfl) ?_
          refine zz_icmp_ge (tgt := 52) hx hb d_Ta_hasSectionWithin_47 (by decide) ⟨by omega, by omega⟩ ⟨by omega, by omega⟩ (fun c47 => ?_) (fun c47 => ?_)
          · refine lv_iinc (v := iZ (((i : Int)) + 1)) (lv' := [(3, .int (iZ (((i : Int)) + 1))), (4, .ref (sc i)), (0, .ref t), (1, .int (iZ x)), (2, .int (iZ y))]) hx hb d_Ta_hasSectionWithin_52 hl (k := 1) rfl (iZ_add _ _) (by decide) rfl (fun ls hl => ?_)
            refine lv_goto (tgt := 2) hx hb d_Ta_hasSectionWithin_55 (by decide) ?_
            exact ih (i + 1) (by omega) (by rw [hv, hsW, if_neg (by omega)]) ls (lv_sub hl [0, 2, 3, 4] rfl)
          · refine lv_iconst (v := iZ 1) hx hb d_Ta_hasSectionWithin_50 rfl ?_
            exact ro_zret hx hb hr hlocks d_Ta_hasSectionWithin_51 (bz1 (by rw [hv, hsW, if_pos ⟨c38, c47⟩]))
  exact lp ns 0 (by omega) rfl ls (lv_sub hl [0, 1, 2, 3] rfl)
