
/-- what the front of a task with the sections S holds when u of its units are done: -3 if nothing -/
def hdO (S : Nat → Int × Int × Int) (u : Int) : Nat → Nat → Int
  | 0, _ => -3
  | f + 1, i => if (S i).2.1 < u ∧ u < (S i).2.1 + (S i).2.2 then (S i).1 else hdO S u f (i + 1)
/-- is a unit of x .. y - 1 in a section -/
def hsW (S : Nat → Int × Int × Int) (x y : Int) : Nat → Nat → Bool
  | 0, _ => false
  | f + 1, i => if x < (S i).2.1 + (S i).2.2 ∧ (S i).2.1 < y then true else hsW S x y f (i + 1)
/-- is there a section on the object -/
def hsO (S : Nat → Int × Int × Int) (o : Int) : Nat → Nat → Bool
  | 0, _ => false
  | f + 1, i => if (S i).1 = o then true else hsO S o f (i + 1)
/-- jobs that are late: those done, and of those in the ring -/
def jlC (rel : Nat → Int) (fr t d : Int) : Nat → Nat → Int → Int
  | 0, _, k => k
  | f + 1, i, k => jlC rel fr t d f (i + 1) (if d ≤ t - rel ((fr + (i : Int)) % 8).toNat then k + 1 else k)
set_option maxHeartbeats 4000000 in
set_option maxRecDepth 100000 in
theorem c_Se_held (l : Launch) (g : GG) (w : fw) (a : Nat) (ob fi ln u : Int) (hc : w a = some (.inr (2, [.int (iZ ob), .int (iZ fi), .int (iZ ln)]))) (hr_0 : ir u) (hr_1 : ir fi) (hr_2 : ir (fi + ln)) : RO l y_Se_isHeldAfter w_Se_isHeldAfter ({ frames := 0, cells := 0, slots := 0, locals := 0 }) g w [.ref a, .int (iZ u)] (.int (bZ (decide (fi < u ∧ u < fi + ln)))) := by
  refine ro_go (by decide) rfl (Nat.le_of_ble_eq_true rfl) ?_
  intro p e s m below meth c hx hb hr hml hown hts hlocks hK hP ls hl
  have hown : s.vm.findClass rSe = some m.cls := hown
  have hl : lv_has ls 2 [(0, .ref a), (1, .int (iZ u))] := hl
  obtain ⟨hr_0a, hr_0b⟩ := hr_0
  obtain ⟨hr_1a, hr_1b⟩ := hr_1
  obtain ⟨hr_2a, hr_2b⟩ := hr_2
  refine lv_iload_n hx hb d_Se_isHeldAfter_0 rfl (lv_at hl 1 rfl) ?_
  refine lv_aload_n hx hb d_Se_isHeldAfter_1 rfl (lv_at hl 0 rfl) ?_
  refine fw_get (ci := 2) (v := .int (iZ fi)) (C := rSe) (T := fSe) (N := 3) hx hb hts iSe hown hK hP hc rfl 1 (by decide) (hts _ t_332) (fun _ h9 => h9) rfl d_Se_isHeldAfter_2 ?_
  refine zz_icmp_le (tgt := 25) hx hb d_Se_isHeldAfter_5 (by decide) ⟨by omega, by omega⟩ ⟨by omega, by omega⟩ (fun c5 => ?_) (fun c5 => ?_)
  · refine lv_iconst (v := iZ 0) hx hb d_Se_isHeldAfter_25 rfl ?_
    exact ro_zret hx hb hr hlocks d_Se_isHeldAfter_26 (bz0 (decide_eq_false (by omega)))
  · refine lv_iload_n hx hb d_Se_isHeldAfter_8 rfl (lv_at hl 1 rfl) ?_
    refine lv_aload_n hx hb d_Se_isHeldAfter_9 rfl (lv_at hl 0 rfl) ?_
    refine fw_get (ci := 2) (v := .int (iZ fi)) (C := rSe) (T := fSe) (N := 3) hx hb hts iSe hown hK hP hc rfl 1 (by decide) (hts _ t_332) (fun _ h9 => h9) rfl d_Se_isHeldAfter_10 ?_
    refine lv_aload_n hx hb d_Se_isHeldAfter_13 rfl (lv_at hl 0 rfl) ?_
    refine fw_get (ci := 2) (v := .int (iZ ln)) (C := rSe) (T := fSe) (N := 3) hx hb hts iSe hown hK hP hc rfl 2 (by decide) (hts _ t_334) (fun _ h9 => h9) rfl d_Se_isHeldAfter_14 ?_
    refine zz_iadd hx hb d_Se_isHeldAfter_17 ?_
    refine zz_icmp_ge (tgt := 25) hx hb d_Se_isHeldAfter_18 (by decide) ⟨by omega, by omega⟩ ⟨by omega, by omega⟩ (fun c18 => ?_) (fun c18 => ?_)
    · refine lv_iconst (v := iZ 0) hx hb d_Se_isHeldAfter_25 rfl ?_
      exact ro_zret hx hb hr hlocks d_Se_isHeldAfter_26 (bz0 (decide_eq_false (by omega)))
    · refine lv_iconst (v := iZ 1) hx hb d_Se_isHeldAfter_21 rfl ?_
      refine lv_goto (tgt := 26) hx hb d_Se_isHeldAfter_22 (by decide) ?_
      exact ro_zret hx hb hr hlocks d_Se_isHeldAfter_26 (bz1 (decide_eq_true (by omega)))

set_option maxHeartbeats 4000000 in
set_option maxRecDepth 100000 in
theorem c_Jq_isEmpty (l : Launch) (g : GG) (w : fw) (a ra : Nat) (fr nd uf rl lr dl gr : Int) (hq : w a = some (.inr (1, [.ref ra, .int (iZ fr), .int (iZ nd), .int (iZ uf), .int (iZ rl), .int (iZ lr), .int (iZ dl), .int (iZ gr)]))) (hr_0 : ir nd) : RO l y_Jq_isEmpty w_Jq_isEmpty ({ frames := 0, cells := 0, slots := 0, locals := 0 }) g w [.ref a] (.int (bZ (decide (nd = 0)))) := by
  refine ro_go (by decide) rfl (Nat.le_of_ble_eq_true rfl) ?_
  intro p e s m below meth c hx hb hr hml hown hts hlocks hK hP ls hl
  have hown : s.vm.findClass rJq = some m.cls := hown
  have hl : lv_has ls 1 [(0, .ref a)] := hl
  obtain ⟨hr_0a, hr_0b⟩ := hr_0
  refine lv_aload_n hx hb d_Jq_isEmpty_0 rfl (lv_at hl 0 rfl) ?_
  refine fw_get (ci := 1) (v := .int (iZ nd)) (C := rJq) (T := fJq) (N := 8) hx hb hts iJq hown hK hP hq rfl 2 (by decide) (hts _ t_164) (fun _ h9 => h9) rfl d_Jq_isEmpty_1 ?_
  refine zz_if_ne (tgt := 11) hx hb d_Jq_isEmpty_4 (by decide) ⟨by omega, by omega⟩ (fun c4 => ?_) (fun c4 => ?_)
  · refine lv_iconst (v := iZ 0) hx hb d_Jq_isEmpty_11 rfl ?_
    exact ro_zret hx hb hr hlocks d_Jq_isEmpty_12 (bz0 (decide_eq_false (by omega)))
  · refine lv_iconst (v := iZ 1) hx hb d_Jq_isEmpty_7 rfl ?_
    refine lv_goto (tgt := 12) hx hb d_Jq_isEmpty_8 (by decide) ?_
    exact ro_zret hx hb hr hlocks d_Jq_isEmpty_12 (bz1 (decide_eq_true (by omega)))

set_option maxHeartbeats 4000000 in
set_option maxRecDepth 100000 in
theorem c_Jq_isFull (l : Launch) (g : GG) (w : fw) (a ra : Nat) (fr nd uf rl lr dl gr : Int) (hq : w a = some (.inr (1, [.ref ra, .int (iZ fr), .int (iZ nd), .int (iZ uf), .int (iZ rl), .int (iZ lr), .int (iZ dl), .int (iZ gr)]))) (hr_0 : ir nd) : RO l y_Jq_isFull w_Jq_isFull ({ frames := 0, cells := 0, slots := 0, locals := 0 }) g w [.ref a] (.int (bZ (decide (8 ≤ nd)))) := by
  refine ro_go (by decide) rfl (Nat.le_of_ble_eq_true rfl) ?_
  intro p e s m below meth c hx hb hr hml hown hts hlocks hK hP ls hl
  have hown : s.vm.findClass rJq = some m.cls := hown
  have hl : lv_has ls 1 [(0, .ref a)] := hl
  obtain ⟨hr_0a, hr_0b⟩ := hr_0
  refine lv_aload_n hx hb d_Jq_isFull_0 rfl (lv_at hl 0 rfl) ?_
  refine fw_get (ci := 1) (v := .int (iZ nd)) (C := rJq) (T := fJq) (N := 8) hx hb hts iJq hown hK hP hq rfl 2 (by decide) (hts _ t_164) (fun _ h9 => h9) rfl d_Jq_isFull_1 ?_
  refine lv_bipush (v := iZ 8) hx hb d_Jq_isFull_4 (by decide) ?_
  refine zz_icmp_lt (tgt := 13) hx hb d_Jq_isFull_6 (by decide) ⟨by omega, by omega⟩ ⟨by omega, by omega⟩ (fun c6 => ?_) (fun c6 => ?_)
  · refine lv_iconst (v := iZ 0) hx hb d_Jq_isFull_13 rfl ?_
    exact ro_zret hx hb hr hlocks d_Jq_isFull_14 (bz0 (decide_eq_false (by omega)))
  · refine lv_iconst (v := iZ 1) hx hb d_Jq_isFull_9 rfl ?_
    refine lv_goto (tgt := 14) hx hb d_Jq_isFull_10 (by decide) ?_
    exact ro_zret hx hb hr hlocks d_Jq_isFull_14 (bz1 (decide_eq_true (by omega)))

set_option maxHeartbeats 4000000 in
set_option maxRecDepth 100000 in
theorem c_Jq_within (l : Launch) (g : GG) (w : fw) (a ra : Nat) (fr nd uf rl lr dl gr : Int) (sp t : Int) (hq : w a = some (.inr (1, [.ref ra, .int (iZ fr), .int (iZ nd), .int (iZ uf), .int (iZ rl), .int (iZ lr), .int (iZ dl), .int (iZ gr)]))) (hr_0 : ir rl) (hr_1 : ir (t - lr)) (hr_2 : ir sp) : RO l y_Jq_hasReleaseWithin w_Jq_hasReleaseWithin ({ frames := 0, cells := 0, slots := 0, locals := 0 }) g w [.ref a, .int (iZ sp), .int (iZ t)] (.int (bZ (decide (0 < rl ∧ t - lr < sp)))) := by
  refine ro_go (by decide) rfl (Nat.le_of_ble_eq_true rfl) ?_
  intro p e s m below meth c hx hb hr hml hown hts hlocks hK hP ls hl
  have hown : s.vm.findClass rJq = some m.cls := hown
  have hl : lv_has ls 3 [(0, .ref a), (1, .int (iZ sp)), (2, .int (iZ t))] := hl
  obtain ⟨hr_0a, hr_0b⟩ := hr_0
  obtain ⟨hr_1a, hr_1b⟩ := hr_1
  obtain ⟨hr_2a, hr_2b⟩ := hr_2
  refine lv_aload_n hx hb d_Jq_hasReleaseWithin_0 rfl (lv_at hl 0 rfl) ?_
  refine fw_get (ci := 1) (v := .int (iZ rl)) (C := rJq) (T := fJq) (N := 8) hx hb hts iJq hown hK hP hq rfl 4 (by decide) (hts _ t_169) (fun _ h9 => h9) rfl d_Jq_hasReleaseWithin_1 ?_
  refine zz_if_le (tgt := 21) hx hb d_Jq_hasReleaseWithin_4 (by decide) ⟨by omega, by omega⟩ (fun c4 => ?_) (fun c4 => ?_)
  · refine lv_iconst (v := iZ 0) hx hb d_Jq_hasReleaseWithin_21 rfl ?_
    exact ro_zret hx hb hr hlocks d_Jq_hasReleaseWithin_22 (bz0 (decide_eq_false (by omega)))
  · refine lv_iload_n hx hb d_Jq_hasReleaseWithin_7 rfl (lv_at hl 2 rfl) ?_
    refine lv_aload_n hx hb d_Jq_hasReleaseWithin_8 rfl (lv_at hl 0 rfl) ?_
    refine fw_get (ci := 1) (v := .int (iZ lr)) (C := rJq) (T := fJq) (N := 8) hx hb hts iJq hown hK hP hq rfl 5 (by decide) (hts _ t_171) (fun _ h9 => h9) rfl d_Jq_hasReleaseWithin_9 ?_
    refine zz_isub hx hb d_Jq_hasReleaseWithin_12 ?_
    refine lv_iload_n hx hb d_Jq_hasReleaseWithin_13 rfl (lv_at hl 1 rfl) ?_
    refine zz_icmp_ge (tgt := 21) hx hb d_Jq_hasReleaseWithin_14 (by decide) ⟨by omega, by omega⟩ ⟨by omega, by omega⟩ (fun c14 => ?_) (fun c14 => ?_)
    · refine lv_iconst (v := iZ 0) hx hb d_Jq_hasReleaseWithin_21 rfl ?_
      exact ro_zret hx hb hr hlocks d_Jq_hasReleaseWithin_22 (bz0 (decide_eq_false (by omega)))
    · refine lv_iconst (v := iZ 1) hx hb d_Jq_hasReleaseWithin_17 rfl ?_
      refine lv_goto (tgt := 22) hx hb d_Jq_hasReleaseWithin_18 (by decide) ?_
      exact ro_zret hx hb hr hlocks d_Jq_hasReleaseWithin_22 (bz1 (decide_eq_true (by omega)))

set_option maxHeartbeats 4000000 in
set_option maxRecDepth 100000 in
theorem c_Jq_front (l : Launch) (g : GG) (w : fw) (a ra : Nat) (fr nd uf rl lr dl gr : Int) (rel : Nat → Int) (hq : w a = some (.inr (1, [.ref ra, .int (iZ fr), .int (iZ nd), .int (iZ uf), .int (iZ rl), .int (iZ lr), .int (iZ dl), .int (iZ gr)]))) (hra : w ra = some (aZ g.2.1 8 rel)) (hf : 0 ≤ fr ∧ fr < 8) : RO l y_Jq_releaseOfFront w_Jq_releaseOfFront ({ frames := 0, cells := 0, slots := 0, locals := 0 }) g w [.ref a] (.int (iZ (rel fr.toNat))) := by
  refine ro_go (by decide) rfl (Nat.le_of_ble_eq_true rfl) ?_
  intro p e s m below meth c hx hb hr hml hown hts hlocks hK hP ls hl
  have hown : s.vm.findClass rJq = some m.cls := hown
  have hl : lv_has ls 1 [(0, .ref a)] := hl
  refine lv_aload_n hx hb d_Jq_releaseOfFront_0 rfl (lv_at hl 0 rfl) ?_
  refine fw_get (ci := 1) (v := .ref ra) (C := rJq) (T := fJq) (N := 8) hx hb hts iJq hown hK hP hq rfl 0 (by decide) (hts _ t_162) (fun _ h9 => h9) rfl d_Jq_releaseOfFront_1 ?_
  refine lv_aload_n hx hb d_Jq_releaseOfFront_4 rfl (lv_at hl 0 rfl) ?_
  refine fw_get (ci := 1) (v := .int (iZ fr)) (C := rJq) (T := fJq) (N := 8) hx hb hts iJq hown hK hP hq rfl 1 (by decide) (hts _ t_163) (fun _ h9 => h9) rfl d_Jq_releaseOfFront_5 ?_
  refine fw_iald hx hb hK hP hra (by decide) ((Int.toNat fr)) (by omega) (by omega) d_Jq_releaseOfFront_8 ?_
  exact ro_iret hx hb hr hlocks d_Jq_releaseOfFront_9 rfl
