set_option maxHeartbeats 4000000 in
set_option maxRecDepth 100000 in
theorem c_Ma_floor (l : Launch) (g : GG) (w : fw) (x y : Int) (hx0 : 0 ≤ x ∧ x ≤ 2147483647) (hy0 : 0 < y ∧ y ≤ 2147483647) : RO l y_Ma_floorMod w_Ma_floorMod ({ frames := 0, cells := 0, slots := 0, locals := 0 }) g w [.int (iZ x), .int (iZ y)] (.int (iZ (x % y))) := by
  refine ro_goF (by decide +kernel) rfl (Nat.le_of_ble_eq_true rfl) ?_
  intro p e s m below meth c hx hb hr hml hown hts hlocks hK hP ls hl
  have hown : s.vm.findClass rMa = some m.cls := hown
  have hl : lv_has ls 3 [(0, .int (iZ x)), (1, .int (iZ y))] := hl
  refine lv_iload_n hx hb d_Ma_floorMod_0 rfl (lv_at hl 0 rfl) ?_
  refine lv_iload_n hx hb d_Ma_floorMod_1 rfl (lv_at hl 1 rfl) ?_
  refine zz_irem hx hb d_Ma_floorMod_2 (by omega) (by omega) (by omega) (by omega) ?_
  refine lv_istore_n (lv' := [(2, .int (iZ (x % y))), (0, .int (iZ x)), (1, .int (iZ y))]) hx hb d_Ma_floorMod_3 rfl hl (by decide) rfl (fun ls hl => ?_)
  refine lv_iload_n hx hb d_Ma_floorMod_4 rfl (lv_at hl 1 rfl) ?_
  refine lv_iload_n hx hb d_Ma_floorMod_5 rfl (lv_at hl 2 rfl) ?_
  refine lv_ixor hx hb d_Ma_floorMod_6 ?_
  refine lv_if_ge (tgt := 18) hx hb d_Ma_floorMod_7 (by decide) (fun c7 => ?_) (fun c7 => absurd (iZ_xor (by omega) (by omega) (by omega) (by omega)) c7)
  refine lv_iload_n hx hb d_Ma_floorMod_18 rfl (lv_at hl 0 rfl) ?_
  exact ro_iret hx hb hr hlocks d_Ma_floorMod_19 rfl

set_option maxHeartbeats 4000000 in
set_option maxRecDepth 100000 in
theorem c_Hi_holds (l : Launch) (g : GG) (w : fw) (a ta : Nat) (ti idl sw lr ln : Int) (x : Int) (hh : w a = some (.inr (0, [.ref ta, .int (iZ ti), .int (iZ idl), .int (iZ sw), .int (iZ lr), .int (iZ ln)]))) (hr_0 : ir x) (hti : 0 ≤ ti ∧ ti ≤ 2000000) : RO l y_Hi_holdsUnit w_Hi_holdsUnit ({ frames := 0, cells := 0, slots := 0, locals := 0 }) g w [.ref a, .int (iZ x)] (.int (bZ (decide (0 ≤ x ∧ x < ti ∧ ti - 64 ≤ x)))) := by
  refine ro_go (by decide) rfl (Nat.le_of_ble_eq_true rfl) ?_
  intro p e s m below meth c hx hb hr hml hown hts hlocks hK hP ls hl
  have hown : s.vm.findClass rHi = some m.cls := hown
  have hl : lv_has ls 2 [(0, .ref a), (1, .int (iZ x))] := hl
  obtain ⟨hr_0a, hr_0b⟩ := hr_0
  refine lv_iload_n hx hb d_Hi_holdsUnit_0 rfl (lv_at hl 1 rfl) ?_
  refine zz_if_lt (tgt := 27) hx hb d_Hi_holdsUnit_1 (by decide) ⟨by omega, by omega⟩ (fun c1 => ?_) (fun c1 => ?_)
  · refine lv_iconst (v := iZ 0) hx hb d_Hi_holdsUnit_27 rfl ?_
    exact ro_zret hx hb hr hlocks d_Hi_holdsUnit_28 (bz0 (decide_eq_false (by omega)))
  · refine lv_iload_n hx hb d_Hi_holdsUnit_4 rfl (lv_at hl 1 rfl) ?_
    refine lv_aload_n hx hb d_Hi_holdsUnit_5 rfl (lv_at hl 0 rfl) ?_
    refine fw_get (ci := 0) (v := .int (iZ ti)) (C := rHi) (T := fHi) (N := 6) hx hb hts iHi hown hK hP hh rfl 1 (by decide) (hts _ t_101) (fun _ h9 => h9) rfl d_Hi_holdsUnit_6 ?_
    refine zz_icmp_ge (tgt := 27) hx hb d_Hi_holdsUnit_9 (by decide) ⟨by omega, by omega⟩ ⟨by omega, by omega⟩ (fun c9 => ?_) (fun c9 => ?_)
    · refine lv_iconst (v := iZ 0) hx hb d_Hi_holdsUnit_27 rfl ?_
      exact ro_zret hx hb hr hlocks d_Hi_holdsUnit_28 (bz0 (decide_eq_false (by omega)))
    · refine lv_iload_n hx hb d_Hi_holdsUnit_12 rfl (lv_at hl 1 rfl) ?_
      refine lv_aload_n hx hb d_Hi_holdsUnit_13 rfl (lv_at hl 0 rfl) ?_
      refine fw_get (ci := 0) (v := .int (iZ ti)) (C := rHi) (T := fHi) (N := 6) hx hb hts iHi hown hK hP hh rfl 1 (by decide) (hts _ t_101) (fun _ h9 => h9) rfl d_Hi_holdsUnit_14 ?_
      refine lv_bipush (v := iZ 64) hx hb d_Hi_holdsUnit_17 (by decide) ?_
      refine zz_isub hx hb d_Hi_holdsUnit_19 ?_
      refine zz_icmp_lt (tgt := 27) hx hb d_Hi_holdsUnit_20 (by decide) ⟨by omega, by omega⟩ ⟨by omega, by omega⟩ (fun c20 => ?_) (fun c20 => ?_)
      · refine lv_iconst (v := iZ 0) hx hb d_Hi_holdsUnit_27 rfl ?_
        exact ro_zret hx hb hr hlocks d_Hi_holdsUnit_28 (bz0 (decide_eq_false (by omega)))
      · refine lv_iconst (v := iZ 1) hx hb d_Hi_holdsUnit_23 rfl ?_
        refine lv_goto (tgt := 28) hx hb d_Hi_holdsUnit_24 (by decide) ?_
        exact ro_zret hx hb hr hlocks d_Hi_holdsUnit_28 (bz1 (decide_eq_true (by omega)))

set_option maxHeartbeats 4000000 in
set_option maxRecDepth 100000 in
theorem c_Hi_unit (l : Launch) (g : GG) (w : fw) (a ta : Nat) (ti idl sw lr ln : Int) (tof : Nat → Int) (x : Int) (hh : w a = some (.inr (0, [.ref ta, .int (iZ ti), .int (iZ idl), .int (iZ sw), .int (iZ lr), .int (iZ ln)]))) (hta : w ta = some (aZ g.2.1 64 tof)) (hx0 : 0 ≤ x ∧ x ≤ 2147483647) : RO l y_Hi_taskOfUnit w_Hi_taskOfUnit ({ frames := 1, cells := 0, slots := 0, locals := 22 }) g w [.ref a, .int (iZ x)] (.int (iZ (tof (x % 64).toNat))) := by
  refine ro_go (by decide) rfl (Nat.le_of_ble_eq_true rfl) ?_
  intro p e s m below meth c hx hb hr hml hown hts hlocks hK hP ls hl
  have hown : s.vm.findClass rHi = some m.cls := hown
  have hl : lv_has ls 2 [(0, .ref a), (1, .int (iZ x))] := hl
  refine lv_aload_n hx hb d_Hi_taskOfUnit_0 rfl (lv_at hl 0 rfl) ?_
  refine fw_get (ci := 0) (v := .ref ta) (C := rHi) (T := fHi) (N := 6) hx hb hts iHi hown hK hP hh rfl 0 (by decide) (hts _ t_100) (fun _ h9 => h9) rfl d_Hi_taskOfUnit_1 ?_
  refine lv_iload_n hx hb d_Hi_taskOfUnit_4 rfl (lv_at hl 1 rfl) ?_
  refine lv_bipush (v := iZ 64) hx hb d_Hi_taskOfUnit_5 (by decide) ?_
  refine fw_ro (r := .int (iZ (x % 64))) (va_runS (As := [.int (iZ x), .int (iZ 64)]) (rest := [.ref ta]) ⟨hx, hb, hml, hown, hts⟩ (c_Ma_floor l g w x 64 ⟨by omega, by omega⟩ ⟨by omega, by omega⟩) (va_cwS 2 hts (gdS k_Ma_floorMod t_421 t_422 t_54) rfl rfl rfl (by decide +kernel) ⟨Nat.le_of_ble_eq_true rfl, Nat.le_of_ble_eq_true rfl⟩) ⟨roP_blind, roP_pre hK hP⟩ rfl rfl hl.1 rfl (lv_room (Nat.le_of_ble_eq_true rfl)) d_Hi_taskOfUnit_7 ⟨by decide, by decide⟩) ?_
  refine fw_iald hx hb hK hP hta (by decide) (((x % 64).toNat)) (by omega) (by omega) d_Hi_taskOfUnit_10 ?_
  exact ro_iret hx hb hr hlocks d_Hi_taskOfUnit_11 rfl

set_option maxHeartbeats 4000000 in
set_option maxRecDepth 100000 in
theorem c_Jq_late (l : Launch) (g : GG) (w : fw) (a ra : Nat) (fr nd uf rl lr dl gr : Int) (rel : Nat → Int) (t d : Int) (hq : w a = some (.inr (1, [.ref ra, .int (iZ fr), .int (iZ nd), .int (iZ uf), .int (iZ rl), .int (iZ lr), .int (iZ dl), .int (iZ gr)]))) (hra : w ra = some (aZ g.2.1 8 rel)) (hf : 0 ≤ fr ∧ fr < 8) (hn : 0 ≤ nd ∧ nd ≤ 8) (hrr : ∀ k, 0 ≤ rel k ∧ rel k ≤ 2000000) (ht0 : 0 ≤ t ∧ t ≤ 2000000) (hd0 : 0 ≤ d ∧ d ≤ 60) : RO l y_Jq_lateAt w_Jq_lateAt ({ frames := 0, cells := 0, slots := 0, locals := 0 }) g w [.ref a, .int (iZ t), .int (iZ d)] (.int (iZ (jlC rel fr t d nd.toNat 0 dl))) := by
  refine ro_go (by decide) rfl (Nat.le_of_ble_eq_true rfl) ?_
  intro p e s m below meth c hx hb hr hml hown hts hlocks hK hP ls hl
  have hown : s.vm.findClass rJq = some m.cls := hown
  have hl : lv_has ls 5 [(0, .ref a), (1, .int (iZ t)), (2, .int (iZ d))] := hl
  refine lv_aload_n hx hb d_Jq_lateAt_0 rfl (lv_at hl 0 rfl) ?_
  refine fw_get (ci := 1) (v := .int (iZ dl)) (C := rJq) (T := fJq) (N := 8) hx hb hts iJq hown hK hP hq rfl 6 (by decide) (hts _ t_172) (fun _ h9 => h9) rfl d_Jq_lateAt_1 ?_
  refine lv_istore_n (lv' := [(3, .int (iZ dl)), (0, .ref a), (1, .int (iZ t)), (2, .int (iZ d))]) hx hb d_Jq_lateAt_4 rfl hl (by decide) rfl (fun ls hl => ?_)
  refine lv_iconst (v := iZ 0) hx hb d_Jq_lateAt_5 rfl ?_
  refine lv_istore (lv' := [(4, .int (iZ 0)), (3, .int (iZ dl)), (0, .ref a), (1, .int (iZ t)), (2, .int (iZ d))]) hx hb d_Jq_lateAt_6 hl (by decide) rfl (fun ls hl => ?_)
  have lp : ∀ (f i : Nat) (k : Int), i + f = nd.toNat → (jlC rel fr t d nd.toNat 0 dl = jlC rel fr t d f i k) → ∀ ls : Array Slot, lv_has ls 5 [(4, .int (iZ ((i : Int)))), (3, .int (iZ k)), (0, .ref a), (1, .int (iZ t)), (2, .int (iZ d))] → W p l e ({ frames := 0, cells := 0, slots := 0, locals := 0 }) s m ([.ref a, .int (iZ t), .int (iZ d)] : List Value).toArray below meth c s.heap [] 0 0 (MQ below (k2_QcV (.int (iZ (jlC rel fr t d nd.toNat 0 dl)))) ([.ref a, .int (iZ t), .int (iZ d)] : List Value).toArray s 0 0 (fun _ => False)) (F0 m 8 ls []) := by
    intro f
    induction f with
    | zero =>
      intro i k hif hv ls hl
      refine lv_iload hx hb d_Jq_lateAt_8 (lv_at hl 0 rfl) ?_
      refine lv_aload_n hx hb d_Jq_lateAt_10 rfl (lv_at hl 2 rfl) ?_
      refine fw_get (ci := 1) (v := .int (iZ nd)) (C := rJq) (T := fJq) (N := 8) hx hb hts iJq hown hK hP hq rfl 2 (by decide) (hts _ t_164) (fun _ h9 => h9) rfl d_Jq_lateAt_11 ?_
      refine zz_icmp_ge (tgt := 47) hx hb d_Jq_lateAt_14 (by decide) ⟨by omega, by omega⟩ ⟨by omega, by omega⟩ (fun c14 => ?_) (fun c14 => ?_)
      · refine lv_iload_n hx hb d_Jq_lateAt_47 rfl (lv_at hl 1 rfl) ?_
        exact ro_iret hx hb hr hlocks d_Jq_lateAt_48 (congrArg iZ (by rw [hv]; rfl))
      · exfalso; omega
    | succ f ih =>
      intro i k hif hv ls hl
      refine lv_iload hx hb d_Jq_lateAt_8 (lv_at hl 0 rfl) ?_
      refine lv_aload_n hx hb d_Jq_lateAt_10 rfl (lv_at hl 2 rfl) ?_
      refine fw_get (ci := 1) (v := .int (iZ nd)) (C := rJq) (T := fJq) (N := 8) hx hb hts iJq hown hK hP hq rfl 2 (by decide) (hts _ t_164) (fun _ h9 => h9) rfl d_Jq_lateAt_11 ?_
      refine zz_icmp_ge (tgt := 47) hx hb d_Jq_lateAt_14 (by decide) ⟨by omega, by omega⟩ ⟨by omega, by omega⟩ (fun c14 => ?_) (fun c14 => ?_)
      · exfalso; omega
      · refine lv_iload_n hx hb d_Jq_lateAt_17 rfl (lv_at hl 3 rfl) ?_
        refine lv_aload_n hx hb d_Jq_lateAt_18 rfl (lv_at hl 2 rfl) ?_
        refine fw_get (ci := 1) (v := .ref ra) (C := rJq) (T := fJq) (N := 8) hx hb hts iJq hown hK hP hq rfl 0 (by decide) (hts _ t_162) (fun _ h9 => h9) rfl d_Jq_lateAt_19 ?_
        refine lv_aload_n hx hb d_Jq_lateAt_22 rfl (lv_at hl 2 rfl) ?_
        refine fw_get (ci := 1) (v := .int (iZ fr)) (C := rJq) (T := fJq) (N := 8) hx hb hts iJq hown hK hP hq rfl 1 (by decide) (hts _ t_163) (fun _ h9 => h9) rfl d_Jq_lateAt_23 ?_
        refine lv_iload hx hb d_Jq_lateAt_26 (lv_at hl 0 rfl) ?_
        refine zz_iadd hx hb d_Jq_lateAt_28 ?_
        refine lv_bipush (v := iZ 8) hx hb d_Jq_lateAt_29 (by decide) ?_
        refine zz_irem hx hb d_Jq_lateAt_31 (by omega) (by omega) (by omega) (by omega) ?_
        refine fw_iald hx hb hK hP hra (by decide) ((((fr + (i : Int)) % 8).toNat)) (by omega) (by omega) d_Jq_lateAt_32 ?_
        have hri := hrr ((fr + (i : Int)) % 8).toNat
        refine zz_isub hx hb d_Jq_lateAt_33 ?_
        refine lv_iload_n hx hb d_Jq_lateAt_34 rfl (lv_at hl 4 rfl) ?_
        refine zz_icmp_lt (tgt := 41) hx hb d_Jq_lateAt_35 (by decide) ⟨by omega, by omega⟩ ⟨by omega, by omega⟩ (fun c35 => ?_) (fun c35 => ?_)
        · refine lv_iinc (v := iZ (((i : Int)) + 1)) (lv' := [(4, .int (iZ (((i : Int)) + 1))), (3, .int (iZ k)), (0, .ref a), (1, .int (iZ t)), (2, .int (iZ d))]) hx hb d_Jq_lateAt_41 hl (k := 0) rfl (iZ_add _ _) (by decide) rfl (fun ls hl => ?_)
          refine lv_goto (tgt := 8) hx hb d_Jq_lateAt_44 (by decide) ?_
          exact ih (i + 1) k (by omega) (by rw [hv, jlC, if_neg (by omega)]) ls (lv_sub hl [0, 1, 2, 3, 4] rfl)
        · refine lv_iinc (v := iZ (k + 1)) (lv' := [(3, .int (iZ (k + 1))), (4, .int (iZ ((i : Int)))), (0, .ref a), (1, .int (iZ t)), (2, .int (iZ d))]) hx hb d_Jq_lateAt_38 hl (k := 1) rfl (iZ_add _ _) (by decide) rfl (fun ls hl => ?_)
          refine lv_iinc (v := iZ (((i : Int)) + 1)) (lv' := [(4, .int (iZ (((i : Int)) + 1))), (3, .int (iZ (k + 1))), (0, .ref a), (1, .int (iZ t)), (2, .int (iZ d))]) hx hb d_Jq_lateAt_41 hl (k := 1) rfl (iZ_add _ _) (by decide) rfl (fun ls hl => ?_)
          refine lv_goto (tgt := 8) hx hb d_Jq_lateAt_44 (by decide) ?_
          exact ih (i + 1) (k + 1) (by omega) (by rw [hv, jlC, if_pos (by omega)]) ls (lv_sub hl [0, 1, 2, 3, 4] rfl)
  exact lp nd.toNat 0 dl (by omega) rfl ls (lv_sub hl [0, 1, 2, 3, 4] rfl)
