
theorem arrV_ext (cI : ClassId) {N : Nat} {f h : Nat → Value} (e : ∀ j, j < N → f j = h j) : arrV cI N f = arrV cI N h := by
  unfold arrV
  congr 1
  apply congrArg
  funext j
  exact e j.val j.isLt
theorem fW_ext {g : GG} {A : Nat → Prop} {s : State} {H : Heap} {locs : List Loc} {w : fw} {a n : Nat} {f h : Nat → Int} (hF : fW g A s H locs w) (ha : w a = some (aZ g.2.1 n f)) (e : ∀ j, j < n → f j = h j) : fW g A s H locs (fU w a (aZ g.2.1 n h)) := by
  refine ⟨hF.1.upd ?_ (fun _ _ => rfl), hF.2.1.upd (hF.2.1 a _ ha), hF.2.2⟩
  show H[a]? = some (vp_cell _ _)
  rw [vp_cell_i, ← arrV_ext g.2.1 (f := fun j => .int (iZ (f j))) (fun j hj => by rw [e j hj])]
  exact hF.1 a _ ha
def csM0 : CsM := (0, fun _ => (2, 1, 1, 1, false), fun _ => 0, fun _ _ => (0, 0, 1), fun _ => (0, fun _ => 0, 0, 0, 0, 0, 0, 0, 0), fun _ => 10, (fun _ => 0, 0, 0, 0, -3, -3), false)

set_option maxHeartbeats 4000000 in
set_option maxRecDepth 100000 in
theorem c_Cs_init (l : Launch) (g : GG) (w : fw) (sz : Nat) (a : Nat) (ha : w a = some (.inr (4, [.null, .null, .null, .int (bZ false)]))) : RWv l y_Cs_init w_Cs_init ({ frames := 4, cells := 4, slots := 77, locals := 72 }) g w sz [.ref a] 4 77 ((fun w1 => ∃ A : ADT, CsP g w1 a A csM0 ∧ CsO (fun y => y = a ∨ w y = none) a A csM0 ∧ ∀ q, q ≠ a → w q ≠ none → w1 q = w q)) := by
  refine rw_go (by decide) rfl (Nat.le_of_ble_eq_true rfl) ?_
  intro p e s m below meth c hx hb hr hml hown hts hlocks hin hsz hK hT hA hF ls hl
  subst hsz
  have hown : s.vm.findClass rCs = some m.cls := hown
  have hl : lv_has ls 2 [(0, .ref a)] := hl
  refine lv_aload_n hx hb d_Cs_init_0 rfl (lv_at hl 0 rfl) ?_
  refine W.objInit hx hb hown (hts _ t_65) (hts _ t_66) (hts _ k_Oj_init) rfl (by rw [hml]; exact hl.1) rfl d_Cs_init_1 (Nat.le_of_ble_eq_true rfl) (Nat.le_of_ble_eq_true rfl) ?_
  refine W.eq (g2 := F0 m 4 ls []) rfl ?_
  refine lv_aload_n hx hb d_Cs_init_4 rfl (lv_at hl 0 rfl) ?_
  refine fw_new (ci := 6) (fs := [.int (iZ 0), .null, .int (iZ 0)]) (C := rAL) (T := fAL) (N := 3) hx hb hts iAL yAL_t yAL_ok hown (hts _ t_68) (hts _ t_69) (hts _ t_48) hK hF hA rfl dv_AL (Nat.le_of_ble_eq_true rfl) (Nat.le_of_ble_eq_true rfl) d_Cs_init_5 (fun q1 H nq1 hF => ?_)
  obtain ⟨w2, ew2⟩ : ∃ zw : fw, zw = fU w q1 (.inr (6, [.int (iZ 0), .null, .int (iZ 0)])) := ⟨_, rfl⟩
  have hF := fW_to ew2 hF
  have h3 : w2 a = some (.inr (4, [.null, .null, .null, .int (bZ false)])) := by rw [ew2]; exact fU_k (fw_new_ne ha nq1) ha
  have h4 : w2 q1 = some (.inr (6, [.int (iZ 0), .null, .int (iZ 0)])) := by rw [ew2]; exact fU_s _ _ _
  refine lv_dup hx hb d_Cs_init_8 rfl ?_
  refine fw_callv (va_runI (As := []) (rest := [.ref q1, .ref a]) ⟨hx, hb, hml, hown, hts⟩ (c_AL_init l g w2 H.size q1 0 0 h4) (cwI 0 hts (gdT k_AL_init) rfl rfl rfl (hts _ t_48) (hts _ t_70) (hts _ t_71) rfl (by decide +kernel) ⟨Nat.le_of_ble_eq_true rfl, Nat.le_of_ble_eq_true rfl⟩) ⟨rwP_blind, rwP_pre hK hT hA hF⟩ rfl rfl hl.1 rfl (lv_room (Nat.le_of_ble_eq_true rfl)) d_Cs_init_9 ⟨by decide, by decide⟩) hF hA (fun w5 H locs hp6 hz hF => ?_)
  obtain ⟨k1, k2⟩ := hp6
  have h7 : w5 a = some (.inr (4, [.null, .null, .null, .int (bZ false)])) := (k2 a (fw_ne h3 h4 (ne_rr (by decide)))).trans h3
  refine fw_putF (ci := 4) (v := .ref q1) (ty := .object "java/util/ArrayList") (C := rCs) (T := fCs) (N := 4) hx hb hts iCs yCs_t yCs_ok yCs_nm hown hK hF h7 rfl 0 (by decide) (hts _ t_124) (fun _ h9 => h9) rfl hin rfl (by decide +kernel) rfl rfl (Nat.le_of_ble_eq_true rfl) d_Cs_init_12 (fun H locs hF => ?_)
  obtain ⟨w8, ew8⟩ : ∃ zw : fw, zw = fU w5 a (.inr (4, [.ref q1, .null, .null, .int (bZ false)])) := ⟨_, rfl⟩
  have hF := fW_to ew8 hF
  have h9 : w8 a = some (.inr (4, [.ref q1, .null, .null, .int (bZ false)])) := by rw [ew8]; exact fU_s _ _ _
  have h10 : w8 q1 = some (.inr (6, [.int (iZ 0), .ref g.2.2.2, .int (iZ 0)])) := by rw [ew8]; exact fU_k (fw_ne k1 h7 (ne_rr (by decide))) k1
  refine lv_aload_n hx hb d_Cs_init_15 rfl (lv_at hl 0 rfl) ?_
  refine lv_iconst (v := iZ 4) hx hb d_Cs_init_16 rfl ?_
  refine fw_newa (N := 4) hx hb (hts _ t_123) hK hF hA rfl (by decide) (Nat.le_of_ble_eq_true rfl) (Nat.le_of_ble_eq_true rfl) d_Cs_init_17 (fun q11 H nq11 hF => ?_)
  obtain ⟨w12, ew12⟩ : ∃ zw : fw, zw = fU w8 q11 (aZ g.2.1 4 (fun _ => 0)) := ⟨_, rfl⟩
  have hF := fW_to ew12 hF
  have h13 : w12 a = some (.inr (4, [.ref q1, .null, .null, .int (bZ false)])) := by rw [ew12]; exact fU_k (fw_new_ne h9 nq11) h9
  have h14 : w12 q1 = some (.inr (6, [.int (iZ 0), .ref g.2.2.2, .int (iZ 0)])) := by rw [ew12]; exact fU_k (fw_new_ne h10 nq11) h10
  have h15 : w12 q11 = some (aZ g.2.1 4 (fun _ => 0)) := by rw [ew12]; exact fU_s _ _ _
  have n16 : w5 q11 = none := fU_none (by rw [← ew8]; exact nq11)
  have n17 : w2 q11 = none := by
    have z18 : q11 ≠ q1 := fun y => by rw [y, k1] at n16; cases n16
    rw [← k2 q11 z18]; exact n16
  have n19 : w q11 = none := fU_none (by rw [← ew2]; exact n17)
  refine fw_putF (ci := 4) (v := .ref q11) (ty := .array .int) (C := rCs) (T := fCs) (N := 4) hx hb hts iCs yCs_t yCs_ok yCs_nm hown hK hF h13 rfl 1 (by decide) (hts _ t_125) (fun _ h9 => h9) rfl hin rfl (by decide +kernel) rfl rfl (Nat.le_of_ble_eq_true rfl) d_Cs_init_19 (fun H locs hF => ?_)
  obtain ⟨w20, ew20⟩ : ∃ zw : fw, zw = fU w12 a (.inr (4, [.ref q1, .ref q11, .null, .int (bZ false)])) := ⟨_, rfl⟩
  have hF := fW_to ew20 hF
  have h21 : w20 a = some (.inr (4, [.ref q1, .ref q11, .null, .int (bZ false)])) := by rw [ew20]; exact fU_s _ _ _
  have h22 : w20 q1 = some (.inr (6, [.int (iZ 0), .ref g.2.2.2, .int (iZ 0)])) := by rw [ew20]; exact fU_k (fw_ne h14 h13 (ne_rr (by decide))) h14
  have h23 : w20 q11 = some (aZ g.2.1 4 (fun _ => 0)) := by rw [ew20]; exact fU_k (fw_ne h15 h13 ne_lr) h15
  refine lv_aload_n hx hb d_Cs_init_22 rfl (lv_at hl 0 rfl) ?_
  refine fw_new (ci := 0) (fs := [.null, .int (iZ 0), .int (iZ 0), .int (iZ 0), .int (iZ 0), .int (iZ 0)]) (C := rHi) (T := fHi) (N := 6) hx hb hts iHi yHi_t yHi_ok hown (hts _ t_94) (hts _ t_95) (hts _ t_49) hK hF hA rfl dv_Hi (Nat.le_of_ble_eq_true rfl) (Nat.le_of_ble_eq_true rfl) d_Cs_init_23 (fun q24 H nq24 hF => ?_)
  obtain ⟨w25, ew25⟩ : ∃ zw : fw, zw = fU w20 q24 (.inr (0, [.null, .int (iZ 0), .int (iZ 0), .int (iZ 0), .int (iZ 0), .int (iZ 0)])) := ⟨_, rfl⟩
  have hF := fW_to ew25 hF
  have h26 : w25 a = some (.inr (4, [.ref q1, .ref q11, .null, .int (bZ false)])) := by rw [ew25]; exact fU_k (fw_new_ne h21 nq24) h21
  have h27 : w25 q1 = some (.inr (6, [.int (iZ 0), .ref g.2.2.2, .int (iZ 0)])) := by rw [ew25]; exact fU_k (fw_new_ne h22 nq24) h22
  have h28 : w25 q11 = some (aZ g.2.1 4 (fun _ => 0)) := by rw [ew25]; exact fU_k (fw_new_ne h23 nq24) h23
  have h29 : w25 q24 = some (.inr (0, [.null, .int (iZ 0), .int (iZ 0), .int (iZ 0), .int (iZ 0), .int (iZ 0)])) := by rw [ew25]; exact fU_s _ _ _
  have n30 : w12 q24 = none := fU_none (by rw [← ew20]; exact nq24)
  have n31 : w8 q24 = none := fU_none (by rw [← ew12]; exact n30)
  have n32 : w5 q24 = none := fU_none (by rw [← ew8]; exact n31)
  have n33 : w2 q24 = none := by
    have z34 : q24 ≠ q1 := fun y => by rw [y, k1] at n32; cases n32
    rw [← k2 q24 z34]; exact n32
  have n35 : w q24 = none := fU_none (by rw [← ew2]; exact n33)
  refine lv_dup hx hb d_Cs_init_26 rfl ?_
  refine fw_callv (va_runIN (As := []) (rest := [.ref q24, .ref a]) ⟨hx, hb, hml, hown, hts⟩ (c_Hi_init l g w25 H.size q24 h29) ⟨va_cnB 0 hts (gdT k_Hi_init) rfl rfl rfl (hK.2.1 _ n_96) (hts _ t_49) (by decide +kernel) ⟨Nat.le_of_ble_eq_true rfl, Nat.le_of_ble_eq_true rfl⟩, rfl, hts _ t_97⟩ ⟨rwP_blind, rwP_pre hK hT hA hF⟩ rfl rfl hl.1 rfl (lv_room (Nat.le_of_ble_eq_true rfl)) d_Cs_init_27 ⟨by decide, by decide⟩) hF hA (fun w36 H locs hp37 hz hF => ?_)
  obtain ⟨q38, j1, j2, j3, j4⟩ := hp37
  have h39 : w36 a = some (.inr (4, [.ref q1, .ref q11, .null, .int (bZ false)])) := (j4 a (fw_ne h26 h29 (ne_rr (by decide))) (fw_new_ne h26 j1)).trans h26
  have h40 : w36 q1 = some (.inr (6, [.int (iZ 0), .ref g.2.2.2, .int (iZ 0)])) := (j4 q1 (fw_ne h27 h29 (ne_rr (by decide))) (fw_new_ne h27 j1)).trans h27
  have h41 : w36 q11 = some (aZ g.2.1 4 (fun _ => 0)) := (j4 q11 (fw_ne h28 h29 ne_lr) (fw_new_ne h28 j1)).trans h28
  have n42 : w20 q38 = none := fU_none (by rw [← ew25]; exact j1)
  have n43 : w12 q38 = none := fU_none (by rw [← ew20]; exact n42)
  have n44 : w8 q38 = none := fU_none (by rw [← ew12]; exact n43)
  have n45 : w5 q38 = none := fU_none (by rw [← ew8]; exact n44)
  have n46 : w2 q38 = none := by
    have z47 : q38 ≠ q1 := fun y => by rw [y, k1] at n45; cases n45
    rw [← k2 q38 z47]; exact n45
  have n48 : w q38 = none := fU_none (by rw [← ew2]; exact n46)
  refine fw_putF (ci := 4) (v := .ref q24) (ty := .object "CeilingScheduler$History") (C := rCs) (T := fCs) (N := 4) hx hb hts iCs yCs_t yCs_ok yCs_nm hown hK hF h39 rfl 2 (by decide) (hts _ t_126) (fun _ h9 => h9) rfl hin rfl (by decide +kernel) rfl rfl (Nat.le_of_ble_eq_true rfl) d_Cs_init_30 (fun H locs hF => ?_)
  obtain ⟨w49, ew49⟩ : ∃ zw : fw, zw = fU w36 a (.inr (4, [.ref q1, .ref q11, .ref q24, .int (bZ false)])) := ⟨_, rfl⟩
  have hF := fW_to ew49 hF
  have h50 : w49 a = some (.inr (4, [.ref q1, .ref q11, .ref q24, .int (bZ false)])) := by rw [ew49]; exact fU_s _ _ _
  have h51 : w49 q1 = some (.inr (6, [.int (iZ 0), .ref g.2.2.2, .int (iZ 0)])) := by rw [ew49]; exact fU_k (fw_ne h40 h39 (ne_rr (by decide))) h40
  have h52 : w49 q11 = some (aZ g.2.1 4 (fun _ => 0)) := by rw [ew49]; exact fU_k (fw_ne h41 h39 ne_lr) h41
  have h53 : w49 q24 = some (.inr (0, [.ref q38, .int (iZ 0), .int (iZ 0), .int (iZ 0), .int (iZ (-3)), .int (iZ (-3))])) := by rw [ew49]; exact fU_k (fw_ne j2 h39 (ne_rr (by decide))) j2
  have h54 : w49 q38 = some (aZ g.2.1 64 (fun _ => 0)) := by rw [ew49]; exact fU_k (fw_ne j3 h39 ne_lr) j3
  refine lv_iconst (v := iZ 0) hx hb d_Cs_init_33 rfl ?_
  refine lv_istore_n (lv' := [(1, .int (iZ 0)), (0, .ref a)]) hx hb d_Cs_init_34 rfl hl (by decide) rfl (fun ls hl => ?_)
  refine lv_iload_n hx hb d_Cs_init_35 rfl (lv_at hl 0 rfl) ?_
  refine lv_iconst (v := iZ 4) hx hb d_Cs_init_36 rfl ?_
  refine zz_icmp_ge (tgt := 54) hx hb d_Cs_init_37 (by decide) ⟨by omega, by omega⟩ ⟨by omega, by omega⟩ (fun c37 => ?_) (fun c37 => ?_)
  · exfalso; omega
  · refine lv_aload_n hx hb d_Cs_init_40 rfl (lv_at hl 1 rfl) ?_
    refine fw_get (ci := 4) (v := .ref q11) (C := rCs) (T := fCs) (N := 4) hx hb hts iCs hown hK hF.1 h50 rfl 1 (by decide) (hts _ t_125) (fun _ h9 => h9) rfl d_Cs_init_41 ?_
    refine lv_iload_n hx hb d_Cs_init_44 rfl (lv_at hl 0 rfl) ?_
    refine lv_bipush (v := iZ 10) hx hb d_Cs_init_45 (by decide) ?_
    refine fw_iast (x := 10) hx hb hK hF h52 (by decide) 0 rfl (by decide) d_Cs_init_47 (fun H locs hF => ?_)
    obtain ⟨w55, ew55⟩ : ∃ zw : fw, zw = fU w49 q11 (aZ g.2.1 4 (va_up (fun _ => 0) 0 10)) := ⟨_, rfl⟩
    have hF := fW_to ew55 hF
    have h56 : w55 a = some (.inr (4, [.ref q1, .ref q11, .ref q24, .int (bZ false)])) := by rw [ew55]; exact fU_k (fw_ne h50 h52 ne_rl) h50
    have h57 : w55 q1 = some (.inr (6, [.int (iZ 0), .ref g.2.2.2, .int (iZ 0)])) := by rw [ew55]; exact fU_k (fw_ne h51 h52 ne_rl) h51
    have h58 : w55 q11 = some (aZ g.2.1 4 (va_up (fun _ => 0) 0 10)) := by rw [ew55]; exact fU_s _ _ _
    have h59 : w55 q24 = some (.inr (0, [.ref q38, .int (iZ 0), .int (iZ 0), .int (iZ 0), .int (iZ (-3)), .int (iZ (-3))])) := by rw [ew55]; exact fU_k (fw_ne h53 h52 ne_rl) h53
    have h60 : w55 q38 = some (aZ g.2.1 64 (fun _ => 0)) := by rw [ew55]; exact fU_k (fw_ne h54 h52 (ne_ll (by decide))) h54
    refine lv_iinc (v := iZ (0 + 1)) (lv' := [(1, .int (iZ (0 + 1))), (0, .ref a)]) hx hb d_Cs_init_48 hl (k := 0) rfl (iZ_add _ _) (by decide) rfl (fun ls hl => ?_)
    refine lv_goto (tgt := 35) hx hb d_Cs_init_51 (by decide) ?_
    refine lv_iload_n hx hb d_Cs_init_35 rfl (lv_at hl 0 rfl) ?_
    refine lv_iconst (v := iZ 4) hx hb d_Cs_init_36 rfl ?_
    refine zz_icmp_ge (tgt := 54) hx hb d_Cs_init_37 (by decide) ⟨by omega, by omega⟩ ⟨by omega, by omega⟩ (fun c37 => ?_) (fun c37 => ?_)
    · exfalso; omega
    · refine lv_aload_n hx hb d_Cs_init_40 rfl (lv_at hl 1 rfl) ?_
      refine fw_get (ci := 4) (v := .ref q11) (C := rCs) (T := fCs) (N := 4) hx hb hts iCs hown hK hF.1 h56 rfl 1 (by decide) (hts _ t_125) (fun _ h9 => h9) rfl d_Cs_init_41 ?_
      refine lv_iload_n hx hb d_Cs_init_44 rfl (lv_at hl 0 rfl) ?_
      refine lv_bipush (v := iZ 10) hx hb d_Cs_init_45 (by decide) ?_
      refine fw_iast (x := 10) hx hb hK hF h58 (by decide) ((Int.toNat (0 + 1))) (by omega) (by omega) d_Cs_init_47 (fun H locs hF => ?_)
      obtain ⟨w61, ew61⟩ : ∃ zw : fw, zw = fU w55 q11 (aZ g.2.1 4 (va_up (va_up (fun _ => 0) 0 10) ((Int.toNat (0 + 1))) 10)) := ⟨_, rfl⟩
      have hF := fW_to ew61 hF
      have h62 : w61 a = some (.inr (4, [.ref q1, .ref q11, .ref q24, .int (bZ false)])) := by rw [ew61]; exact fU_k (fw_ne h56 h58 ne_rl) h56
      have h63 : w61 q1 = some (.inr (6, [.int (iZ 0), .ref g.2.2.2, .int (iZ 0)])) := by rw [ew61]; exact fU_k (fw_ne h57 h58 ne_rl) h57
      have h64 : w61 q11 = some (aZ g.2.1 4 (va_up (va_up (fun _ => 0) 0 10) ((Int.toNat (0 + 1))) 10)) := by rw [ew61]; exact fU_s _ _ _
      have h65 : w61 q24 = some (.inr (0, [.ref q38, .int (iZ 0), .int (iZ 0), .int (iZ 0), .int (iZ (-3)), .int (iZ (-3))])) := by rw [ew61]; exact fU_k (fw_ne h59 h58 ne_rl) h59
      have h66 : w61 q38 = some (aZ g.2.1 64 (fun _ => 0)) := by rw [ew61]; exact fU_k (fw_ne h60 h58 (ne_ll (by decide))) h60
      refine lv_iinc (v := iZ ((0 + 1) + 1)) (lv' := [(1, .int (iZ ((0 + 1) + 1))), (0, .ref a)]) hx hb d_Cs_init_48 hl (k := 0) rfl (iZ_add _ _) (by decide) rfl (fun ls hl => ?_)
      refine lv_goto (tgt := 35) hx hb d_Cs_init_51 (by decide) ?_
      refine lv_iload_n hx hb d_Cs_init_35 rfl (lv_at hl 0 rfl) ?_
      refine lv_iconst (v := iZ 4) hx hb d_Cs_init_36 rfl ?_
      refine zz_icmp_ge (tgt := 54) hx hb d_Cs_init_37 (by decide) ⟨by omega, by omega⟩ ⟨by omega, by omega⟩ (fun c37 => ?_) (fun c37 => ?_)
      · exfalso; omega
      · refine lv_aload_n hx hb d_Cs_init_40 rfl (lv_at hl 1 rfl) ?_
        refine fw_get (ci := 4) (v := .ref q11) (C := rCs) (T := fCs) (N := 4) hx hb hts iCs hown hK hF.1 h62 rfl 1 (by decide) (hts _ t_125) (fun _ h9 => h9) rfl d_Cs_init_41 ?_
        refine lv_iload_n hx hb d_Cs_init_44 rfl (lv_at hl 0 rfl) ?_
        refine lv_bipush (v := iZ 10) hx hb d_Cs_init_45 (by decide) ?_
        refine fw_iast (x := 10) hx hb hK hF h64 (by decide) ((Int.toNat ((0 + 1) + 1))) (by omega) (by omega) d_Cs_init_47 (fun H locs hF => ?_)
        obtain ⟨w67, ew67⟩ : ∃ zw : fw, zw = fU w61 q11 (aZ g.2.1 4 (va_up (va_up (va_up (fun _ => 0) 0 10) ((Int.toNat (0 + 1))) 10) ((Int.toNat ((0 + 1) + 1))) 10)) := ⟨_, rfl⟩
        have hF := fW_to ew67 hF
        have h68 : w67 a = some (.inr (4, [.ref q1, .ref q11, .ref q24, .int (bZ false)])) := by rw [ew67]; exact fU_k (fw_ne h62 h64 ne_rl) h62
        have h69 : w67 q1 = some (.inr (6, [.int (iZ 0), .ref g.2.2.2, .int (iZ 0)])) := by rw [ew67]; exact fU_k (fw_ne h63 h64 ne_rl) h63
        have h70 : w67 q11 = some (aZ g.2.1 4 (va_up (va_up (va_up (fun _ => 0) 0 10) ((Int.toNat (0 + 1))) 10) ((Int.toNat ((0 + 1) + 1))) 10)) := by rw [ew67]; exact fU_s _ _ _
        have h71 : w67 q24 = some (.inr (0, [.ref q38, .int (iZ 0), .int (iZ 0), .int (iZ 0), .int (iZ (-3)), .int (iZ (-3))])) := by rw [ew67]; exact fU_k (fw_ne h65 h64 ne_rl) h65
        have h72 : w67 q38 = some (aZ g.2.1 64 (fun _ => 0)) := by rw [ew67]; exact fU_k (fw_ne h66 h64 (ne_ll (by decide))) h66
        refine lv_iinc (v := iZ (((0 + 1) + 1) + 1)) (lv' := [(1, .int (iZ (((0 + 1) + 1) + 1))), (0, .ref a)]) hx hb d_Cs_init_48 hl (k := 0) rfl (iZ_add _ _) (by decide) rfl (fun ls hl => ?_)
        refine lv_goto (tgt := 35) hx hb d_Cs_init_51 (by decide) ?_
        refine lv_iload_n hx hb d_Cs_init_35 rfl (lv_at hl 0 rfl) ?_
        refine lv_iconst (v := iZ 4) hx hb d_Cs_init_36 rfl ?_
        refine zz_icmp_ge (tgt := 54) hx hb d_Cs_init_37 (by decide) ⟨by omega, by omega⟩ ⟨by omega, by omega⟩ (fun c37 => ?_) (fun c37 => ?_)
        · exfalso; omega
        · refine lv_aload_n hx hb d_Cs_init_40 rfl (lv_at hl 1 rfl) ?_
          refine fw_get (ci := 4) (v := .ref q11) (C := rCs) (T := fCs) (N := 4) hx hb hts iCs hown hK hF.1 h68 rfl 1 (by decide) (hts _ t_125) (fun _ h9 => h9) rfl d_Cs_init_41 ?_
          refine lv_iload_n hx hb d_Cs_init_44 rfl (lv_at hl 0 rfl) ?_
          refine lv_bipush (v := iZ 10) hx hb d_Cs_init_45 (by decide) ?_
          refine fw_iast (x := 10) hx hb hK hF h70 (by decide) ((Int.toNat (((0 + 1) + 1) + 1))) (by omega) (by omega) d_Cs_init_47 (fun H locs hF => ?_)
          obtain ⟨w73, ew73⟩ : ∃ zw : fw, zw = fU w67 q11 (aZ g.2.1 4 (va_up (va_up (va_up (va_up (fun _ => 0) 0 10) ((Int.toNat (0 + 1))) 10) ((Int.toNat ((0 + 1) + 1))) 10) ((Int.toNat (((0 + 1) + 1) + 1))) 10)) := ⟨_, rfl⟩
          have hF := fW_to ew73 hF
          have h74 : w73 a = some (.inr (4, [.ref q1, .ref q11, .ref q24, .int (bZ false)])) := by rw [ew73]; exact fU_k (fw_ne h68 h70 ne_rl) h68
          have h75 : w73 q1 = some (.inr (6, [.int (iZ 0), .ref g.2.2.2, .int (iZ 0)])) := by rw [ew73]; exact fU_k (fw_ne h69 h70 ne_rl) h69
          have h76 : w73 q11 = some (aZ g.2.1 4 (va_up (va_up (va_up (va_up (fun _ => 0) 0 10) ((Int.toNat (0 + 1))) 10) ((Int.toNat ((0 + 1) + 1))) 10) ((Int.toNat (((0 + 1) + 1) + 1))) 10)) := by rw [ew73]; exact fU_s _ _ _
          have h77 : w73 q24 = some (.inr (0, [.ref q38, .int (iZ 0), .int (iZ 0), .int (iZ 0), .int (iZ (-3)), .int (iZ (-3))])) := by rw [ew73]; exact fU_k (fw_ne h71 h70 ne_rl) h71
          have h78 : w73 q38 = some (aZ g.2.1 64 (fun _ => 0)) := by rw [ew73]; exact fU_k (fw_ne h72 h70 (ne_ll (by decide))) h72
          refine lv_iinc (v := iZ ((((0 + 1) + 1) + 1) + 1)) (lv' := [(1, .int (iZ ((((0 + 1) + 1) + 1) + 1))), (0, .ref a)]) hx hb d_Cs_init_48 hl (k := 0) rfl (iZ_add _ _) (by decide) rfl (fun ls hl => ?_)
          refine lv_goto (tgt := 35) hx hb d_Cs_init_51 (by decide) ?_
          refine lv_iload_n hx hb d_Cs_init_35 rfl (lv_at hl 0 rfl) ?_
          refine lv_iconst (v := iZ 4) hx hb d_Cs_init_36 rfl ?_
          refine zz_icmp_ge (tgt := 54) hx hb d_Cs_init_37 (by decide) ⟨by omega, by omega⟩ ⟨by omega, by omega⟩ (fun c37 => ?_) (fun c37 => ?_)
          · have hF := fW_ext (h := fun _ => 10) hF h76 (fun j hj => by match j, hj with | 0, _ => rfl | 1, _ => rfl | 2, _ => rfl | 3, _ => rfl | k + 4, hj => exact absurd hj (by omega))
            obtain ⟨w79, ew79⟩ : ∃ zw : fw, zw = fU w73 q11 (aZ g.2.1 4 (fun _ => 10)) := ⟨_, rfl⟩
            have hF := fW_to ew79 hF
            have h80 : w79 a = some (.inr (4, [.ref q1, .ref q11, .ref q24, .int (bZ false)])) := by rw [ew79]; exact fU_k (fw_ne h74 h76 ne_rl) h74
            have h81 : w79 q1 = some (.inr (6, [.int (iZ 0), .ref g.2.2.2, .int (iZ 0)])) := by rw [ew79]; exact fU_k (fw_ne h75 h76 ne_rl) h75
            have h82 : w79 q11 = some (aZ g.2.1 4 (fun _ => 10)) := by rw [ew79]; exact fU_s _ _ _
            have h83 : w79 q24 = some (.inr (0, [.ref q38, .int (iZ 0), .int (iZ 0), .int (iZ 0), .int (iZ (-3)), .int (iZ (-3))])) := by rw [ew79]; exact fU_k (fw_ne h77 h76 ne_rl) h77
            have h84 : w79 q38 = some (aZ g.2.1 64 (fun _ => 0)) := by rw [ew79]; exact fU_k (fw_ne h78 h76 (ne_ll (by decide))) h78
            have hoff : ∀ q, q ≠ a → q ≠ q1 → q ≠ q11 → q ≠ q24 → q ≠ q38 → w79 q = w q := (fun q x0 x1 x2 x3 x4 => by rw [ew79, fU_n x2, ew73, fU_n x2, ew67, fU_n x2, ew61, fU_n x2, ew55, fU_n x2, ew49, fU_n x0, j4 q x3 x4, ew25, fU_n x3, ew20, fU_n x0, ew12, fU_n x2, ew8, fU_n x0, k2 q x1, ew2, fU_n x1])
            exact rw_vret hx hb hr hlocks d_Cs_init_54 (by omega) (by omega) hF ⟨((q1, g.2.2.2, q11, q24, q38), (fun _ => 0, fun _ => 0, fun _ => 0, fun _ => 0, fun _ => 0), fun _ _ => 0, (0, fun _ => 0), (fun _ => none, fun _ _ => none)), ⟨h80, h81, fun _ => rfl, fun z => absurd z (by decide), fun j hj => absurd hj (Nat.not_lt_zero _), h82, h83, h84, fun i hi => absurd hi (Nat.not_lt_zero _), fun i j hi => absurd hi (Nat.not_lt_zero _), fun i hi => absurd hi (Nat.not_lt_zero _)⟩, ⟨Or.inl rfl, Or.inr nq1, Or.inr n19, Or.inr n35, Or.inr n48, fun z => absurd z (by decide), fun i hi => absurd hi (Nat.not_lt_zero _)⟩, fun q x0 hn => hoff q x0 (fun e => hn (e ▸ nq1)) (fun e => hn (e ▸ n19)) (fun e => hn (e ▸ n35)) (fun e => hn (e ▸ n48))⟩
          · exfalso; omega
