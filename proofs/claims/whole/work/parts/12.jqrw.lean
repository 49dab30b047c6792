set_option maxHeartbeats 4000000 in
set_option maxRecDepth 100000 in
theorem c_Jq_release (l : Launch) (g : GG) (w : fw) (sz : Nat) (a ra : Nat) (fr nd uf rl lr dl gr : Int) (rel : Nat → Int) (t : Int) (hq : w a = some (.inr (1, [.ref ra, .int (iZ fr), .int (iZ nd), .int (iZ uf), .int (iZ rl), .int (iZ lr), .int (iZ dl), .int (iZ gr)]))) (hra : w ra = some (aZ g.2.1 8 rel)) (hf : 0 ≤ fr ∧ fr < 8) (hn : 0 ≤ nd ∧ nd ≤ 8) : RWv l y_Jq_release w_Jq_release ({ frames := 0, cells := 0, slots := 0, locals := 0 }) g w sz [.ref a, .int (iZ t)] 0 0 ((fun w1 => w1 a = some (.inr (1, [.ref ra, .int (iZ fr), .int (iZ (nd + 1)), .int (iZ uf), .int (iZ (rl + 1)), .int (iZ t), .int (iZ dl), .int (iZ gr)])) ∧ w1 ra = some (aZ g.2.1 8 (va_up rel ((fr + nd) % 8).toNat t)) ∧ (∀ q, q ≠ a → q ≠ ra → w1 q = w q))) := by
  refine rw_go (by decide) rfl (Nat.le_of_ble_eq_true rfl) ?_
  intro p e s m below meth c hx hb hr hml hown hts hlocks hin hsz hK hT hA hF ls hl
  subst hsz
  have hown : s.vm.findClass rJq = some m.cls := hown
  have hl : lv_has ls 2 [(0, .ref a), (1, .int (iZ t))] := hl
  refine lv_aload_n hx hb d_Jq_release_0 rfl (lv_at hl 0 rfl) ?_
  refine fw_get (ci := 1) (v := .ref ra) (C := rJq) (T := fJq) (N := 8) hx hb hts iJq hown hK hF.1 hq rfl 0 (by decide) (hts _ t_162) (fun _ h9 => h9) rfl d_Jq_release_1 ?_
  refine lv_aload_n hx hb d_Jq_release_4 rfl (lv_at hl 0 rfl) ?_
  refine fw_get (ci := 1) (v := .int (iZ fr)) (C := rJq) (T := fJq) (N := 8) hx hb hts iJq hown hK hF.1 hq rfl 1 (by decide) (hts _ t_163) (fun _ h9 => h9) rfl d_Jq_release_5 ?_
  refine lv_aload_n hx hb d_Jq_release_8 rfl (lv_at hl 0 rfl) ?_
  refine fw_get (ci := 1) (v := .int (iZ nd)) (C := rJq) (T := fJq) (N := 8) hx hb hts iJq hown hK hF.1 hq rfl 2 (by decide) (hts _ t_164) (fun _ h9 => h9) rfl d_Jq_release_9 ?_
  refine zz_iadd hx hb d_Jq_release_12 ?_
  refine lv_bipush (v := iZ 8) hx hb d_Jq_release_13 (by decide) ?_
  refine zz_irem hx hb d_Jq_release_15 (by omega) (by omega) (by omega) (by omega) ?_
  refine lv_iload_n hx hb d_Jq_release_16 rfl (lv_at hl 1 rfl) ?_
  refine fw_iast (x := t) hx hb hK hF hra (by decide) (((fr + nd) % 8).toNat) (by omega) (by omega) d_Jq_release_17 (fun H locs hF => ?_)
  obtain ⟨w1, ew1⟩ : ∃ zw : fw, zw = fU w ra (aZ g.2.1 8 (va_up rel (((fr + nd) % 8).toNat) t)) := ⟨_, rfl⟩
  have hF := fW_to ew1 hF
  have h2 : w1 a = some (.inr (1, [.ref ra, .int (iZ fr), .int (iZ nd), .int (iZ uf), .int (iZ rl), .int (iZ lr), .int (iZ dl), .int (iZ gr)])) := by rw [ew1]; exact fU_k (fw_ne hq hra ne_rl) hq
  have h3 : w1 ra = some (aZ g.2.1 8 (va_up rel (((fr + nd) % 8).toNat) t)) := by rw [ew1]; exact fU_s _ _ _
  refine lv_aload_n hx hb d_Jq_release_18 rfl (lv_at hl 0 rfl) ?_
  refine lv_dup hx hb d_Jq_release_19 rfl ?_
  refine fw_get (ci := 1) (v := .int (iZ nd)) (C := rJq) (T := fJq) (N := 8) hx hb hts iJq hown hK hF.1 h2 rfl 2 (by decide) (hts _ t_164) (fun _ h9 => h9) rfl d_Jq_release_20 ?_
  refine lv_iconst (v := iZ 1) hx hb d_Jq_release_23 rfl ?_
  refine zz_iadd hx hb d_Jq_release_24 ?_
  refine fw_put (ci := 1) (v := .int (iZ (nd + 1))) (ty := .int) (C := rJq) (T := fJq) (N := 8) hx hb hts iJq yJq_t yJq_ok yJq_nm hown hK hF h2 rfl 2 (by decide) (hts _ t_164) (fun _ h9 => h9) rfl (by decide +kernel) rfl rfl (Nat.le_of_ble_eq_true rfl) d_Jq_release_25 (fun H locs hF => ?_)
  obtain ⟨w4, ew4⟩ : ∃ zw : fw, zw = fU w1 a (.inr (1, [.ref ra, .int (iZ fr), .int (iZ (nd + 1)), .int (iZ uf), .int (iZ rl), .int (iZ lr), .int (iZ dl), .int (iZ gr)])) := ⟨_, rfl⟩
  have hF := fW_to ew4 hF
  have h5 : w4 a = some (.inr (1, [.ref ra, .int (iZ fr), .int (iZ (nd + 1)), .int (iZ uf), .int (iZ rl), .int (iZ lr), .int (iZ dl), .int (iZ gr)])) := by rw [ew4]; exact fU_s _ _ _
  have h6 : w4 ra = some (aZ g.2.1 8 (va_up rel (((fr + nd) % 8).toNat) t)) := by rw [ew4]; exact fU_k (fw_ne h3 h2 ne_lr) h3
  refine lv_aload_n hx hb d_Jq_release_28 rfl (lv_at hl 0 rfl) ?_
  refine lv_dup hx hb d_Jq_release_29 rfl ?_
  refine fw_get (ci := 1) (v := .int (iZ rl)) (C := rJq) (T := fJq) (N := 8) hx hb hts iJq hown hK hF.1 h5 rfl 4 (by decide) (hts _ t_169) (fun _ h9 => h9) rfl d_Jq_release_30 ?_
  refine lv_iconst (v := iZ 1) hx hb d_Jq_release_33 rfl ?_
  refine zz_iadd hx hb d_Jq_release_34 ?_
  refine fw_put (ci := 1) (v := .int (iZ (rl + 1))) (ty := .int) (C := rJq) (T := fJq) (N := 8) hx hb hts iJq yJq_t yJq_ok yJq_nm hown hK hF h5 rfl 4 (by decide) (hts _ t_169) (fun _ h9 => h9) rfl (by decide +kernel) rfl rfl (Nat.le_of_ble_eq_true rfl) d_Jq_release_35 (fun H locs hF => ?_)
  obtain ⟨w7, ew7⟩ : ∃ zw : fw, zw = fU w4 a (.inr (1, [.ref ra, .int (iZ fr), .int (iZ (nd + 1)), .int (iZ uf), .int (iZ (rl + 1)), .int (iZ lr), .int (iZ dl), .int (iZ gr)])) := ⟨_, rfl⟩
  have hF := fW_to ew7 hF
  have h8 : w7 a = some (.inr (1, [.ref ra, .int (iZ fr), .int (iZ (nd + 1)), .int (iZ uf), .int (iZ (rl + 1)), .int (iZ lr), .int (iZ dl), .int (iZ gr)])) := by rw [ew7]; exact fU_s _ _ _
  have h9 : w7 ra = some (aZ g.2.1 8 (va_up rel (((fr + nd) % 8).toNat) t)) := by rw [ew7]; exact fU_k (fw_ne h6 h5 ne_lr) h6
  refine lv_aload_n hx hb d_Jq_release_38 rfl (lv_at hl 0 rfl) ?_
  refine lv_iload_n hx hb d_Jq_release_39 rfl (lv_at hl 1 rfl) ?_
  refine fw_put (ci := 1) (v := .int (iZ t)) (ty := .int) (C := rJq) (T := fJq) (N := 8) hx hb hts iJq yJq_t yJq_ok yJq_nm hown hK hF h8 rfl 5 (by decide) (hts _ t_171) (fun _ h9 => h9) rfl (by decide +kernel) rfl rfl (Nat.le_of_ble_eq_true rfl) d_Jq_release_40 (fun H locs hF => ?_)
  obtain ⟨w10, ew10⟩ : ∃ zw : fw, zw = fU w7 a (.inr (1, [.ref ra, .int (iZ fr), .int (iZ (nd + 1)), .int (iZ uf), .int (iZ (rl + 1)), .int (iZ t), .int (iZ dl), .int (iZ gr)])) := ⟨_, rfl⟩
  have hF := fW_to ew10 hF
  have h11 : w10 a = some (.inr (1, [.ref ra, .int (iZ fr), .int (iZ (nd + 1)), .int (iZ uf), .int (iZ (rl + 1)), .int (iZ t), .int (iZ dl), .int (iZ gr)])) := by rw [ew10]; exact fU_s _ _ _
  have h12 : w10 ra = some (aZ g.2.1 8 (va_up rel (((fr + nd) % 8).toNat) t)) := by rw [ew10]; exact fU_k (fw_ne h9 h8 ne_lr) h9
  exact rw_vret hx hb hr hlocks d_Jq_release_43 (by omega) (by omega) hF ⟨h11, h12, (fun q x0 x1 => by rw [ew10, fU_n x0, ew7, fU_n x0, ew4, fU_n x0, ew1, fU_n x1])⟩

set_option maxHeartbeats 4000000 in
set_option maxRecDepth 100000 in
theorem c_Jq_finish (l : Launch) (g : GG) (w : fw) (sz : Nat) (a ra : Nat) (fr nd uf rl lr dl gr : Int) (rel : Nat → Int) (ti dd : Int) (hq : w a = some (.inr (1, [.ref ra, .int (iZ fr), .int (iZ nd), .int (iZ uf), .int (iZ rl), .int (iZ lr), .int (iZ dl), .int (iZ gr)]))) (hra : w ra = some (aZ g.2.1 8 rel)) (hf : 0 ≤ fr ∧ fr < 8) (hn : 0 ≤ nd ∧ nd ≤ 8) (hr_0 : ir ((ti - rel fr.toNat))) (hr_1 : ir dd) (hr_2 : ir gr) : RWv l y_Jq_finishFront w_Jq_finishFront ({ frames := 1, cells := 0, slots := 0, locals := 20 }) g w sz [.ref a, .int (iZ ti), .int (iZ dd)] 0 0 ((fun w1 => w1 a = some (.inr (1, [.ref ra, .int (iZ ((fr + 1) % 8)), .int (iZ (nd - 1)), .int (iZ 0), .int (iZ rl), .int (iZ lr), .int (iZ (if dd < (ti - rel fr.toNat) then dl + 1 else dl)), .int (iZ (max gr (ti - rel fr.toNat)))])) ∧ w1 ra = some (aZ g.2.1 8 rel) ∧ (∀ q, q ≠ a → q ≠ ra → w1 q = w q))) := by
  refine rw_go (by decide) rfl (Nat.le_of_ble_eq_true rfl) ?_
  intro p e s m below meth c hx hb hr hml hown hts hlocks hin hsz hK hT hA hF ls hl
  subst hsz
  have hown : s.vm.findClass rJq = some m.cls := hown
  have hl : lv_has ls 4 [(0, .ref a), (1, .int (iZ ti)), (2, .int (iZ dd))] := hl
  obtain ⟨hr_0a, hr_0b⟩ := hr_0
  obtain ⟨hr_1a, hr_1b⟩ := hr_1
  obtain ⟨hr_2a, hr_2b⟩ := hr_2
  refine lv_iload_n hx hb d_Jq_finishFront_0 rfl (lv_at hl 1 rfl) ?_
  refine lv_aload_n hx hb d_Jq_finishFront_1 rfl (lv_at hl 0 rfl) ?_
  refine fw_ro (r := .int (iZ (rel fr.toNat))) (va_runV (As := []) (rest := [.int (iZ ti)]) ⟨hx, hb, hml, hown, hts⟩ (c_Jq_front l g w a ra fr nd uf rl lr dl gr rel hq hra hf) (cwV 0 hts (gdV k_Jq_releaseOfFront t_432 t_415 t_20 t_52) rfl rfl rfl (by decide +kernel) ⟨Nat.le_of_ble_eq_true rfl, Nat.le_of_ble_eq_true rfl⟩) ⟨roP_blind, fw_recv hK hF.1 hq rfl, roP_pre hK hF.1⟩ rfl rfl hl.1 rfl (lv_room (Nat.le_of_ble_eq_true rfl)) d_Jq_finishFront_2 ⟨by decide, by decide⟩) ?_
  refine zz_isub hx hb d_Jq_finishFront_5 ?_
  refine lv_istore_n (lv' := [(3, .int (iZ (ti - (rel fr.toNat)))), (0, .ref a), (1, .int (iZ ti)), (2, .int (iZ dd))]) hx hb d_Jq_finishFront_6 rfl hl (by decide) rfl (fun ls hl => ?_)
  refine lv_aload_n hx hb d_Jq_finishFront_7 rfl (lv_at hl 1 rfl) ?_
  refine lv_aload_n hx hb d_Jq_finishFront_8 rfl (lv_at hl 1 rfl) ?_
  refine fw_get (ci := 1) (v := .int (iZ gr)) (C := rJq) (T := fJq) (N := 8) hx hb hts iJq hown hK hF.1 hq rfl 7 (by decide) (hts _ t_173) (fun _ h9 => h9) rfl d_Jq_finishFront_9 ?_
  refine lv_iload_n hx hb d_Jq_finishFront_12 rfl (lv_at hl 0 rfl) ?_
  refine va_mmax hx hb (by rw [hml]; exact hl.1.symm) hown (hts _ t_433) (hts _ t_244) (hts _ t_54) (hts _ k_Ma_max) (Nat.le_of_ble_eq_true rfl) (Nat.le_of_ble_eq_true rfl) (Nat.le_of_ble_eq_true rfl) (Nat.le_of_ble_eq_true rfl) d_Jq_finishFront_13 ?_
  rw [iZ_max ⟨by omega, by omega⟩ ⟨by omega, by omega⟩]
  refine fw_put (ci := 1) (v := .int (iZ (max gr (ti - (rel fr.toNat))))) (ty := .int) (C := rJq) (T := fJq) (N := 8) hx hb hts iJq yJq_t yJq_ok yJq_nm hown hK hF hq rfl 7 (by decide) (hts _ t_173) (fun _ h9 => h9) rfl (by decide +kernel) rfl rfl (Nat.le_of_ble_eq_true rfl) d_Jq_finishFront_16 (fun H locs hF => ?_)
  obtain ⟨w2, ew2⟩ : ∃ zw : fw, zw = fU w a (.inr (1, [.ref ra, .int (iZ fr), .int (iZ nd), .int (iZ uf), .int (iZ rl), .int (iZ lr), .int (iZ dl), .int (iZ (max gr (ti - (rel fr.toNat))))])) := ⟨_, rfl⟩
  have hF := fW_to ew2 hF
  have h3 : w2 a = some (.inr (1, [.ref ra, .int (iZ fr), .int (iZ nd), .int (iZ uf), .int (iZ rl), .int (iZ lr), .int (iZ dl), .int (iZ (max gr (ti - (rel fr.toNat))))])) := by rw [ew2]; exact fU_s _ _ _
  have h4 : w2 ra = some (aZ g.2.1 8 rel) := by rw [ew2]; exact fU_k (fw_ne hra hq ne_lr) hra
  refine lv_iload_n hx hb d_Jq_finishFront_19 rfl (lv_at hl 0 rfl) ?_
  refine lv_iload_n hx hb d_Jq_finishFront_20 rfl (lv_at hl 3 rfl) ?_
  refine zz_icmp_le (tgt := 34) hx hb d_Jq_finishFront_21 (by decide) ⟨by omega, by omega⟩ ⟨by omega, by omega⟩ (fun c21 => ?_) (fun c21 => ?_)
  · refine lv_aload_n hx hb d_Jq_finishFront_34 rfl (lv_at hl 1 rfl) ?_
    refine lv_aload_n hx hb d_Jq_finishFront_35 rfl (lv_at hl 1 rfl) ?_
    refine fw_get (ci := 1) (v := .int (iZ fr)) (C := rJq) (T := fJq) (N := 8) hx hb hts iJq hown hK hF.1 h3 rfl 1 (by decide) (hts _ t_163) (fun _ h9 => h9) rfl d_Jq_finishFront_36 ?_
    refine lv_iconst (v := iZ 1) hx hb d_Jq_finishFront_39 rfl ?_
    refine zz_iadd hx hb d_Jq_finishFront_40 ?_
    refine lv_bipush (v := iZ 8) hx hb d_Jq_finishFront_41 (by decide) ?_
    refine zz_irem hx hb d_Jq_finishFront_43 (by omega) (by omega) (by omega) (by omega) ?_
    refine fw_put (ci := 1) (v := .int (iZ ((fr + 1) % 8))) (ty := .int) (C := rJq) (T := fJq) (N := 8) hx hb hts iJq yJq_t yJq_ok yJq_nm hown hK hF h3 rfl 1 (by decide) (hts _ t_163) (fun _ h9 => h9) rfl (by decide +kernel) rfl rfl (Nat.le_of_ble_eq_true rfl) d_Jq_finishFront_44 (fun H locs hF => ?_)
    obtain ⟨w5, ew5⟩ : ∃ zw : fw, zw = fU w2 a (.inr (1, [.ref ra, .int (iZ ((fr + 1) % 8)), .int (iZ nd), .int (iZ uf), .int (iZ rl), .int (iZ lr), .int (iZ dl), .int (iZ (max gr (ti - (rel fr.toNat))))])) := ⟨_, rfl⟩
    have hF := fW_to ew5 hF
    have h6 : w5 a = some (.inr (1, [.ref ra, .int (iZ ((fr + 1) % 8)), .int (iZ nd), .int (iZ uf), .int (iZ rl), .int (iZ lr), .int (iZ dl), .int (iZ (max gr (ti - (rel fr.toNat))))])) := by rw [ew5]; exact fU_s _ _ _
    have h7 : w5 ra = some (aZ g.2.1 8 rel) := by rw [ew5]; exact fU_k (fw_ne h4 h3 ne_lr) h4
    refine lv_aload_n hx hb d_Jq_finishFront_47 rfl (lv_at hl 1 rfl) ?_
    refine lv_dup hx hb d_Jq_finishFront_48 rfl ?_
    refine fw_get (ci := 1) (v := .int (iZ nd)) (C := rJq) (T := fJq) (N := 8) hx hb hts iJq hown hK hF.1 h6 rfl 2 (by decide) (hts _ t_164) (fun _ h9 => h9) rfl d_Jq_finishFront_49 ?_
    refine lv_iconst (v := iZ 1) hx hb d_Jq_finishFront_52 rfl ?_
    refine zz_isub hx hb d_Jq_finishFront_53 ?_
    refine fw_put (ci := 1) (v := .int (iZ (nd - 1))) (ty := .int) (C := rJq) (T := fJq) (N := 8) hx hb hts iJq yJq_t yJq_ok yJq_nm hown hK hF h6 rfl 2 (by decide) (hts _ t_164) (fun _ h9 => h9) rfl (by decide +kernel) rfl rfl (Nat.le_of_ble_eq_true rfl) d_Jq_finishFront_54 (fun H locs hF => ?_)
    obtain ⟨w8, ew8⟩ : ∃ zw : fw, zw = fU w5 a (.inr (1, [.ref ra, .int (iZ ((fr + 1) % 8)), .int (iZ (nd - 1)), .int (iZ uf), .int (iZ rl), .int (iZ lr), .int (iZ dl), .int (iZ (max gr (ti - (rel fr.toNat))))])) := ⟨_, rfl⟩
    have hF := fW_to ew8 hF
    have h9 : w8 a = some (.inr (1, [.ref ra, .int (iZ ((fr + 1) % 8)), .int (iZ (nd - 1)), .int (iZ uf), .int (iZ rl), .int (iZ lr), .int (iZ dl), .int (iZ (max gr (ti - (rel fr.toNat))))])) := by rw [ew8]; exact fU_s _ _ _
    have h10 : w8 ra = some (aZ g.2.1 8 rel) := by rw [ew8]; exact fU_k (fw_ne h7 h6 ne_lr) h7
    refine lv_aload_n hx hb d_Jq_finishFront_57 rfl (lv_at hl 1 rfl) ?_
    refine lv_iconst (v := iZ 0) hx hb d_Jq_finishFront_58 rfl ?_
    refine fw_put (ci := 1) (v := .int (iZ 0)) (ty := .int) (C := rJq) (T := fJq) (N := 8) hx hb hts iJq yJq_t yJq_ok yJq_nm hown hK hF h9 rfl 3 (by decide) (hts _ t_167) (fun _ h9 => h9) rfl (by decide +kernel) rfl rfl (Nat.le_of_ble_eq_true rfl) d_Jq_finishFront_59 (fun H locs hF => ?_)
    obtain ⟨w11, ew11⟩ : ∃ zw : fw, zw = fU w8 a (.inr (1, [.ref ra, .int (iZ ((fr + 1) % 8)), .int (iZ (nd - 1)), .int (iZ 0), .int (iZ rl), .int (iZ lr), .int (iZ dl), .int (iZ (max gr (ti - (rel fr.toNat))))])) := ⟨_, rfl⟩
    have hF := fW_to ew11 hF
    have h12 : w11 a = some (.inr (1, [.ref ra, .int (iZ ((fr + 1) % 8)), .int (iZ (nd - 1)), .int (iZ 0), .int (iZ rl), .int (iZ lr), .int (iZ dl), .int (iZ (max gr (ti - (rel fr.toNat))))])) := by rw [ew11]; exact fU_s _ _ _
    have h13 : w11 ra = some (aZ g.2.1 8 rel) := by rw [ew11]; exact fU_k (fw_ne h10 h9 ne_lr) h10
    exact rw_vret hx hb hr hlocks d_Jq_finishFront_62 (by omega) (by omega) hF ⟨by rw [if_neg (by omega)]; exact h12, h13, (fun q x0 x1 => by rw [ew11, fU_n x0, ew8, fU_n x0, ew5, fU_n x0, ew2, fU_n x0])⟩
  · refine lv_aload_n hx hb d_Jq_finishFront_24 rfl (lv_at hl 1 rfl) ?_
    refine lv_dup hx hb d_Jq_finishFront_25 rfl ?_
    refine fw_get (ci := 1) (v := .int (iZ dl)) (C := rJq) (T := fJq) (N := 8) hx hb hts iJq hown hK hF.1 h3 rfl 6 (by decide) (hts _ t_172) (fun _ h9 => h9) rfl d_Jq_finishFront_26 ?_
    refine lv_iconst (v := iZ 1) hx hb d_Jq_finishFront_29 rfl ?_
    refine zz_iadd hx hb d_Jq_finishFront_30 ?_
    refine fw_put (ci := 1) (v := .int (iZ (dl + 1))) (ty := .int) (C := rJq) (T := fJq) (N := 8) hx hb hts iJq yJq_t yJq_ok yJq_nm hown hK hF h3 rfl 6 (by decide) (hts _ t_172) (fun _ h9 => h9) rfl (by decide +kernel) rfl rfl (Nat.le_of_ble_eq_true rfl) d_Jq_finishFront_31 (fun H locs hF => ?_)
    obtain ⟨w14, ew14⟩ : ∃ zw : fw, zw = fU w2 a (.inr (1, [.ref ra, .int (iZ fr), .int (iZ nd), .int (iZ uf), .int (iZ rl), .int (iZ lr), .int (iZ (dl + 1)), .int (iZ (max gr (ti - (rel fr.toNat))))])) := ⟨_, rfl⟩
    have hF := fW_to ew14 hF
    have h15 : w14 a = some (.inr (1, [.ref ra, .int (iZ fr), .int (iZ nd), .int (iZ uf), .int (iZ rl), .int (iZ lr), .int (iZ (dl + 1)), .int (iZ (max gr (ti - (rel fr.toNat))))])) := by rw [ew14]; exact fU_s _ _ _
    have h16 : w14 ra = some (aZ g.2.1 8 rel) := by rw [ew14]; exact fU_k (fw_ne h4 h3 ne_lr) h4
    refine lv_aload_n hx hb d_Jq_finishFront_34 rfl (lv_at hl 1 rfl) ?_
    refine lv_aload_n hx hb d_Jq_finishFront_35 rfl (lv_at hl 1 rfl) ?_
    refine fw_get (ci := 1) (v := .int (iZ fr)) (C := rJq) (T := fJq) (N := 8) hx hb hts iJq hown hK hF.1 h15 rfl 1 (by decide) (hts _ t_163) (fun _ h9 => h9) rfl d_Jq_finishFront_36 ?_
    refine lv_iconst (v := iZ 1) hx hb d_Jq_finishFront_39 rfl ?_
    refine zz_iadd hx hb d_Jq_finishFront_40 ?_
    refine lv_bipush (v := iZ 8) hx hb d_Jq_finishFront_41 (by decide) ?_
    refine zz_irem hx hb d_Jq_finishFront_43 (by omega) (by omega) (by omega) (by omega) ?_
    refine fw_put (ci := 1) (v := .int (iZ ((fr + 1) % 8))) (ty := .int) (C := rJq) (T := fJq) (N := 8) hx hb hts iJq yJq_t yJq_ok yJq_nm hown hK hF h15 rfl 1 (by decide) (hts _ t_163) (fun _ h9 => h9) rfl (by decide +kernel) rfl rfl (Nat.le_of_ble_eq_true rfl) d_Jq_finishFront_44 (fun H locs hF => ?_)
    obtain ⟨w17, ew17⟩ : ∃ zw : fw, zw = fU w14 a (.inr (1, [.ref ra, .int (iZ ((fr + 1) % 8)), .int (iZ nd), .int (iZ uf), .int (iZ rl), .int (iZ lr), .int (iZ (dl + 1)), .int (iZ (max gr (ti - (rel fr.toNat))))])) := ⟨_, rfl⟩
    have hF := fW_to ew17 hF
    have h18 : w17 a = some (.inr (1, [.ref ra, .int (iZ ((fr + 1) % 8)), .int (iZ nd), .int (iZ uf), .int (iZ rl), .int (iZ lr), .int (iZ (dl + 1)), .int (iZ (max gr (ti - (rel fr.toNat))))])) := by rw [ew17]; exact fU_s _ _ _
    have h19 : w17 ra = some (aZ g.2.1 8 rel) := by rw [ew17]; exact fU_k (fw_ne h16 h15 ne_lr) h16
    refine lv_aload_n hx hb d_Jq_finishFront_47 rfl (lv_at hl 1 rfl) ?_
    refine lv_dup hx hb d_Jq_finishFront_48 rfl ?_
    refine fw_get (ci := 1) (v := .int (iZ nd)) (C := rJq) (T := fJq) (N := 8) hx hb hts iJq hown hK hF.1 h18 rfl 2 (by decide) (hts _ t_164) (fun _ h9 => h9) rfl d_Jq_finishFront_49 ?_
    refine lv_iconst (v := iZ 1) hx hb d_Jq_finishFront_52 rfl ?_
    refine zz_isub hx hb d_Jq_finishFront_53 ?_
    refine fw_put (ci := 1) (v := .int (iZ (nd - 1))) (ty := .int) (C := rJq) (T := fJq) (N := 8) hx hb hts iJq yJq_t yJq_ok yJq_nm hown hK hF h18 rfl 2 (by decide) (hts _ t_164) (fun _ h9 => h9) rfl (by decide +kernel) rfl rfl (Nat.le_of_ble_eq_true rfl) d_Jq_finishFront_54 (fun H locs hF => ?_)
    obtain ⟨w20, ew20⟩ : ∃ zw : fw, zw = fU w17 a (.inr (1, [.ref ra, .int (iZ ((fr + 1) % 8)), .int (iZ (nd - 1)), .int (iZ uf), .int (iZ rl), .int (iZ lr), .int (iZ (dl + 1)), .int (iZ (max gr (ti - (rel fr.toNat))))])) := ⟨_, rfl⟩
    have hF := fW_to ew20 hF
    have h21 : w20 a = some (.inr (1, [.ref ra, .int (iZ ((fr + 1) % 8)), .int (iZ (nd - 1)), .int (iZ uf), .int (iZ rl), .int (iZ lr), .int (iZ (dl + 1)), .int (iZ (max gr (ti - (rel fr.toNat))))])) := by rw [ew20]; exact fU_s _ _ _
    have h22 : w20 ra = some (aZ g.2.1 8 rel) := by rw [ew20]; exact fU_k (fw_ne h19 h18 ne_lr) h19
    refine lv_aload_n hx hb d_Jq_finishFront_57 rfl (lv_at hl 1 rfl) ?_
    refine lv_iconst (v := iZ 0) hx hb d_Jq_finishFront_58 rfl ?_
    refine fw_put (ci := 1) (v := .int (iZ 0)) (ty := .int) (C := rJq) (T := fJq) (N := 8) hx hb hts iJq yJq_t yJq_ok yJq_nm hown hK hF h21 rfl 3 (by decide) (hts _ t_167) (fun _ h9 => h9) rfl (by decide +kernel) rfl rfl (Nat.le_of_ble_eq_true rfl) d_Jq_finishFront_59 (fun H locs hF => ?_)
    obtain ⟨w23, ew23⟩ : ∃ zw : fw, zw = fU w20 a (.inr (1, [.ref ra, .int (iZ ((fr + 1) % 8)), .int (iZ (nd - 1)), .int (iZ 0), .int (iZ rl), .int (iZ lr), .int (iZ (dl + 1)), .int (iZ (max gr (ti - (rel fr.toNat))))])) := ⟨_, rfl⟩
    have hF := fW_to ew23 hF
    have h24 : w23 a = some (.inr (1, [.ref ra, .int (iZ ((fr + 1) % 8)), .int (iZ (nd - 1)), .int (iZ 0), .int (iZ rl), .int (iZ lr), .int (iZ (dl + 1)), .int (iZ (max gr (ti - (rel fr.toNat))))])) := by rw [ew23]; exact fU_s _ _ _
    have h25 : w23 ra = some (aZ g.2.1 8 rel) := by rw [ew23]; exact fU_k (fw_ne h22 h21 ne_lr) h22
    exact rw_vret hx hb hr hlocks d_Jq_finishFront_62 (by omega) (by omega) hF ⟨by rw [if_pos c21]; exact h24, h25, (fun q x0 x1 => by rw [ew23, fU_n x0, ew20, fU_n x0, ew17, fU_n x0, ew14, fU_n x0, ew2, fU_n x0])⟩
