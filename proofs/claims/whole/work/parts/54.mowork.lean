def shI (f : Nat → Int) (x : Nat) : Nat → Nat → Int
  | 0 => f
  | i + 1 => va_up (shI f x i) (x + i) (shI f x i (x + i + 1))
def wkA (N : MoM) (t : Nat) : MoM := (nTa N, nTi N, nId N, if (t : Int) = nBu N then nSw N else nSw N + 1, nLa N, (t : Int), nSt N, va_up (nA N) 12 (va_up (nA N 12) t (nA N 12 t + 1)))
def wkW (N : MoM) (t : Nat) : MoM := (nTa N, nTi N, nId N, if (t : Int) = nBu N then nSw N else nSw N + 1, nLa N, (t : Int), nSt N, va_up (va_up (nA N) 12 (va_up (nA N 12) t (nA N 12 t + 1))) 16 (if nA N 16 t < nTi N + 1 - nA N 11 (t * 8) then va_up (nA N 16) t (nTi N + 1 - nA N 11 (t * 8)) else nA N 16))
def wkC (N : MoM) (t : Nat) : MoM := (nTa N, nTi N, nId N, nSw N, nLa N, nBu N, nSt N, va_up (va_up (va_up (va_up (nA N) 11 (shI (nA N 11) (t * 8) 7)) 10 (va_up (nA N 10) t (nA N 10 t - 1))) 12 (va_up (nA N 12) t 0)) 14 (va_up (nA N 14) t (nA N 14 t + 1)))
def wkM (N : MoM) (t : Nat) : MoM := if nA N 12 t + 1 < nA N 1 t then wkA N t else wkC (wkW N t) t
set_option maxHeartbeats 4000000 in
set_option maxRecDepth 100000 in
theorem c_Mo_work (l : Launch) (g : GG) (w : fw) (sz : Nat) (b : Nat) (ad : Nat → Nat) (N : MoM) (O : Nat → Prop) (tb : Int) (t : Nat) (hM : MoP g w b ad N) (hI : MoI N tb) (hO : MoO O b ad) (ht : t < nTa N) (hw0 : 0 < nA N 10 t) (htb : nTi N < tb) : RWv l y_Mo_work w_Mo_work ({ frames := 0, cells := 0, slots := 0, locals := 0 }) g w sz [.ref b, .int (iZ ((t : Int)))] 0 0 ((fun w1 => MoP g w1 b ad (wkM N t) ∧ ∀ q, ¬ O q → w1 q = w q)) := by
  refine rw_go (by decide) rfl (Nat.le_of_ble_eq_true rfl) ?_
  intro p e s m below meth c hx hb hr hml hown hts hlocks hin hsz hK hT hA hF ls hl
  subst hsz
  have hown : s.vm.findClass rMo = some m.cls := hown
  have hl : lv_has ls 4 [(0, .ref b), (1, .int (iZ ((t : Int))))] := hl
  have hI0 := hI
  have hM0 := hM
  obtain ⟨hmo, qa0, qa1, qa2, qa3, qa4, qa5, qa6, qa7, qa8, qa9, qa10, qa11, qa12, qa13, qa14, qa15, qa16, qa17, qa18, hinj⟩ := hM
  obtain ⟨itb, in6, iti, ila, ibu, ice, ion, ifr, ilo, ire, itk⟩ := hI
  obtain ⟨r0t, r1t, r2t, r3t, r4t, r6t, r10t, r12t, r16t⟩ := itk t ht
  have ht6 : t < 6 := by omega
  have hrt := ire (t * 8)
  have hu1 : va_up (nA N 12) t (nA N 12 t + 1) t = nA N 12 t + 1 := va_up_s _ _ _
  have tail : ∀ (NB : MoM) (wB : fw) (H : Heap) (locs : List Loc) (x : Int), wkC NB t = wkM N t → MoP g wB b ad NB → (∀ q, ¬ O q → wB q = w q) → fW g (fA w s.heap.size) s H locs wB → ∀ ls : Array Slot, lv_has ls 4 [(2, .int (iZ x)), (0, .ref b), (1, .int (iZ ((t : Int))))] → W p l e ({ frames := 0, cells := 0, slots := 0, locals := 0 }) s m ([.ref b, .int (iZ ((t : Int)))] : List Value).toArray below meth c H locs 0 0 (MQ below (va_Qv ((fun w1 => MoP g w1 b ad (wkM N t) ∧ ∀ q, ¬ O q → w1 q = w q)) (rwB g w s.heap.size) (fA w s.heap.size)) ([.ref b, .int (iZ ((t : Int)))] : List Value).toArray s 0 0 (fA w s.heap.size)) (F0 m 83 ls []) := by
    intro NB wB H locs x hfin hMB hofB hF ls hl
    obtain ⟨hmo, qa0, qa1, qa2, qa3, qa4, qa5, qa6, qa7, qa8, qa9, qa10, qa11, qa12, qa13, qa14, qa15, qa16, qa17, qa18, hinj⟩ := id hMB
    refine lv_iload_n hx hb d_Mo_work_83 rfl (lv_at hl 2 rfl) ?_
    refine lv_bipush (v := iZ 8) hx hb d_Mo_work_84 (by decide) ?_
    refine zz_imul hx hb d_Mo_work_86 ?_
    refine lv_istore_n (lv' := [(3, .int (iZ (((t : Int)) * 8))), (2, .int (iZ x)), (0, .ref b), (1, .int (iZ ((t : Int))))]) hx hb d_Mo_work_87 rfl hl (by decide) rfl (fun ls hl => ?_)
    have lp : ∀ (f i k : Nat) (N2 : MoM) (w2 : fw) (H : Heap) (locs : List Loc), i + f = 7 → k = t * 8 + i → N2 = setA NB 11 (shI (nA NB 11) (t * 8) i) → MoP g w2 b ad N2 → (∀ q, ¬ O q → w2 q = w q) → fW g (fA w s.heap.size) s H locs w2 → ∀ ls : Array Slot, lv_has ls 4 [(3, .int (iZ (k : Int))), (0, .ref b), (1, .int (iZ (t : Int))), (2, .int (iZ x))] → W p l e ({ frames := 0, cells := 0, slots := 0, locals := 0 }) s m ([.ref b, .int (iZ ((t : Int)))] : List Value).toArray below meth c H locs 0 0 (MQ below (va_Qv ((fun w1 => MoP g w1 b ad (wkM N t) ∧ ∀ q, ¬ O q → w1 q = w q)) (rwB g w s.heap.size) (fA w s.heap.size)) ([.ref b, .int (iZ ((t : Int)))] : List Value).toArray s 0 0 (fA w s.heap.size)) (F0 m 88 ls []) := by
      intro f
      induction f with
      | zero =>
        intro i k N2 w2 H locs hif hk eN2 hM2 hof hF ls hl
        obtain ⟨hmo, qa0, qa1, qa2, qa3, qa4, qa5, qa6, qa7, qa8, qa9, qa10, qa11, qa12, qa13, qa14, qa15, qa16, qa17, qa18, hinj⟩ := id hM2
        refine lv_iload_n hx hb d_Mo_work_88 rfl (lv_at hl 0 rfl) ?_
        refine lv_iload_n hx hb d_Mo_work_89 rfl (lv_at hl 2 rfl) ?_
        refine lv_bipush (v := iZ 8) hx hb d_Mo_work_90 (by decide) ?_
        refine zz_imul hx hb d_Mo_work_92 ?_
        refine lv_bipush (v := iZ 7) hx hb d_Mo_work_93 (by decide) ?_
        refine zz_iadd hx hb d_Mo_work_95 ?_
        refine zz_icmp_ge (tgt := 119) hx hb d_Mo_work_96 (by decide) ⟨by omega, by omega⟩ ⟨by omega, by omega⟩ (fun c96 => ?_) (fun c96 => ?_)
        · have ei : i = 7 := by omega
          subst ei
          refine lv_aload_n hx hb d_Mo_work_119 rfl (lv_at hl 1 rfl) ?_
          refine fw_get (ci := 5) (v := .ref (ad 10)) (C := rMo) (T := fMo) (N := 26) hx hb hts iMo hown hK hF.1 hmo rfl 17 (by decide) (hts _ t_525) (fun _ h9 => h9) rfl d_Mo_work_120 ?_
          refine lv_iload_n hx hb d_Mo_work_123 rfl (lv_at hl 2 rfl) ?_
          refine lv_dup2_11 hx hb d_Mo_work_124 rfl rfl ?_
          refine fw_iald hx hb hK hF.1 qa10 (by decide) t rfl (by omega) d_Mo_work_125 ?_
          refine lv_iconst (v := iZ 1) hx hb d_Mo_work_126 rfl ?_
          refine zz_isub hx hb d_Mo_work_127 ?_
          refine fw_iast (x := ((nA N2 10) t) - 1) hx hb hK hF qa10 (by decide) t rfl (by omega) d_Mo_work_128 (fun H locs hF => ?_)
          obtain ⟨w1, ew1⟩ : ∃ zw : fw, zw = fU w2 (ad 10) (aZ g.2.1 6 (va_up (nA N2 10) t (((nA N2 10) t) - 1))) := ⟨_, rfl⟩
          have hF := fW_to ew1 hF
          have h2 : w1 b = some (.inr (5, [.int (iZ ((nTa N2 : Int))), .int (iZ (nTi N2)), .int (iZ (nId N2)), .int (iZ (nSw N2)), .int (iZ (nLa N2)), .int (iZ (nBu N2)), .int (bZ (nSt N2)), .ref (ad 0), .ref (ad 1), .ref (ad 2), .ref (ad 3), .ref (ad 4), .ref (ad 5), .ref (ad 6), .ref (ad 7), .ref (ad 8), .ref (ad 9), .ref (ad 10), .ref (ad 11), .ref (ad 12), .ref (ad 13), .ref (ad 14), .ref (ad 15), .ref (ad 16), .ref (ad 17), .ref (ad 18)])) := by rw [ew1]; exact fU_k (fw_ne hmo qa10 ne_rl) hmo
          have h3 : w1 (ad 0) = some (aZ g.2.1 6 (nA N2 0)) := by rw [ew1]; exact fU_k (hinj 0 10 (by decide) (by decide) (by decide)) qa0
          have h4 : w1 (ad 1) = some (aZ g.2.1 6 (nA N2 1)) := by rw [ew1]; exact fU_k (hinj 1 10 (by decide) (by decide) (by decide)) qa1
          have h5 : w1 (ad 2) = some (aZ g.2.1 6 (nA N2 2)) := by rw [ew1]; exact fU_k (hinj 2 10 (by decide) (by decide) (by decide)) qa2
          have h6 : w1 (ad 3) = some (aZ g.2.1 6 (nA N2 3)) := by rw [ew1]; exact fU_k (hinj 3 10 (by decide) (by decide) (by decide)) qa3
          have h7 : w1 (ad 4) = some (aZ g.2.1 6 (nA N2 4)) := by rw [ew1]; exact fU_k (hinj 4 10 (by decide) (by decide) (by decide)) qa4
          have h8 : w1 (ad 5) = some (aZ g.2.1 4 (nA N2 5)) := by rw [ew1]; exact fU_k (hinj 5 10 (by decide) (by decide) (by decide)) qa5
          have h9 : w1 (ad 6) = some (aZ g.2.1 6 (nA N2 6)) := by rw [ew1]; exact fU_k (hinj 6 10 (by decide) (by decide) (by decide)) qa6
          have h10 : w1 (ad 7) = some (aZ g.2.1 18 (nA N2 7)) := by rw [ew1]; exact fU_k (hinj 7 10 (by decide) (by decide) (by decide)) qa7
          have h11 : w1 (ad 8) = some (aZ g.2.1 18 (nA N2 8)) := by rw [ew1]; exact fU_k (hinj 8 10 (by decide) (by decide) (by decide)) qa8
          have h12 : w1 (ad 9) = some (aZ g.2.1 18 (nA N2 9)) := by rw [ew1]; exact fU_k (hinj 9 10 (by decide) (by decide) (by decide)) qa9
          have h13 : w1 (ad 10) = some (aZ g.2.1 6 (va_up (nA N2 10) t (((nA N2 10) t) - 1))) := by rw [ew1]; exact fU_s _ _ _
          have h14 : w1 (ad 11) = some (aZ g.2.1 48 (nA N2 11)) := by rw [ew1]; exact fU_k (hinj 11 10 (by decide) (by decide) (by decide)) qa11
          have h15 : w1 (ad 12) = some (aZ g.2.1 6 (nA N2 12)) := by rw [ew1]; exact fU_k (hinj 12 10 (by decide) (by decide) (by decide)) qa12
          have h16 : w1 (ad 13) = some (aZ g.2.1 6 (nA N2 13)) := by rw [ew1]; exact fU_k (hinj 13 10 (by decide) (by decide) (by decide)) qa13
          have h17 : w1 (ad 14) = some (aZ g.2.1 6 (nA N2 14)) := by rw [ew1]; exact fU_k (hinj 14 10 (by decide) (by decide) (by decide)) qa14
          have h18 : w1 (ad 15) = some (aZ g.2.1 6 (nA N2 15)) := by rw [ew1]; exact fU_k (hinj 15 10 (by decide) (by decide) (by decide)) qa15
          have h19 : w1 (ad 16) = some (aZ g.2.1 6 (nA N2 16)) := by rw [ew1]; exact fU_k (hinj 16 10 (by decide) (by decide) (by decide)) qa16
          have h20 : w1 (ad 17) = some (aZ g.2.1 6 (nA N2 17)) := by rw [ew1]; exact fU_k (hinj 17 10 (by decide) (by decide) (by decide)) qa17
          have h21 : w1 (ad 18) = some (aZ g.2.1 64 (nA N2 18)) := by rw [ew1]; exact fU_k (hinj 18 10 (by decide) (by decide) (by decide)) qa18
          refine lv_aload_n hx hb d_Mo_work_129 rfl (lv_at hl 1 rfl) ?_
          refine fw_get (ci := 5) (v := .ref (ad 12)) (C := rMo) (T := fMo) (N := 26) hx hb hts iMo hown hK hF.1 h2 rfl 19 (by decide) (hts _ t_527) (fun _ h9 => h9) rfl d_Mo_work_130 ?_
          refine lv_iload_n hx hb d_Mo_work_133 rfl (lv_at hl 2 rfl) ?_
          refine lv_iconst (v := iZ 0) hx hb d_Mo_work_134 rfl ?_
          refine fw_iast (x := 0) hx hb hK hF h15 (by decide) t rfl (by omega) d_Mo_work_135 (fun H locs hF => ?_)
          obtain ⟨w22, ew22⟩ : ∃ zw : fw, zw = fU w1 (ad 12) (aZ g.2.1 6 (va_up (nA N2 12) t 0)) := ⟨_, rfl⟩
          have hF := fW_to ew22 hF
          have h23 : w22 b = some (.inr (5, [.int (iZ ((nTa N2 : Int))), .int (iZ (nTi N2)), .int (iZ (nId N2)), .int (iZ (nSw N2)), .int (iZ (nLa N2)), .int (iZ (nBu N2)), .int (bZ (nSt N2)), .ref (ad 0), .ref (ad 1), .ref (ad 2), .ref (ad 3), .ref (ad 4), .ref (ad 5), .ref (ad 6), .ref (ad 7), .ref (ad 8), .ref (ad 9), .ref (ad 10), .ref (ad 11), .ref (ad 12), .ref (ad 13), .ref (ad 14), .ref (ad 15), .ref (ad 16), .ref (ad 17), .ref (ad 18)])) := by rw [ew22]; exact fU_k (fw_ne h2 h15 ne_rl) h2
          have h24 : w22 (ad 0) = some (aZ g.2.1 6 (nA N2 0)) := by rw [ew22]; exact fU_k (hinj 0 12 (by decide) (by decide) (by decide)) h3
          have h25 : w22 (ad 1) = some (aZ g.2.1 6 (nA N2 1)) := by rw [ew22]; exact fU_k (hinj 1 12 (by decide) (by decide) (by decide)) h4
          have h26 : w22 (ad 2) = some (aZ g.2.1 6 (nA N2 2)) := by rw [ew22]; exact fU_k (hinj 2 12 (by decide) (by decide) (by decide)) h5
          have h27 : w22 (ad 3) = some (aZ g.2.1 6 (nA N2 3)) := by rw [ew22]; exact fU_k (hinj 3 12 (by decide) (by decide) (by decide)) h6
          have h28 : w22 (ad 4) = some (aZ g.2.1 6 (nA N2 4)) := by rw [ew22]; exact fU_k (hinj 4 12 (by decide) (by decide) (by decide)) h7
          have h29 : w22 (ad 5) = some (aZ g.2.1 4 (nA N2 5)) := by rw [ew22]; exact fU_k (hinj 5 12 (by decide) (by decide) (by decide)) h8
          have h30 : w22 (ad 6) = some (aZ g.2.1 6 (nA N2 6)) := by rw [ew22]; exact fU_k (hinj 6 12 (by decide) (by decide) (by decide)) h9
          have h31 : w22 (ad 7) = some (aZ g.2.1 18 (nA N2 7)) := by rw [ew22]; exact fU_k (hinj 7 12 (by decide) (by decide) (by decide)) h10
          have h32 : w22 (ad 8) = some (aZ g.2.1 18 (nA N2 8)) := by rw [ew22]; exact fU_k (hinj 8 12 (by decide) (by decide) (by decide)) h11
          have h33 : w22 (ad 9) = some (aZ g.2.1 18 (nA N2 9)) := by rw [ew22]; exact fU_k (hinj 9 12 (by decide) (by decide) (by decide)) h12
          have h34 : w22 (ad 10) = some (aZ g.2.1 6 (va_up (nA N2 10) t (((nA N2 10) t) - 1))) := by rw [ew22]; exact fU_k (hinj 10 12 (by decide) (by decide) (by decide)) h13
          have h35 : w22 (ad 11) = some (aZ g.2.1 48 (nA N2 11)) := by rw [ew22]; exact fU_k (hinj 11 12 (by decide) (by decide) (by decide)) h14
          have h36 : w22 (ad 12) = some (aZ g.2.1 6 (va_up (nA N2 12) t 0)) := by rw [ew22]; exact fU_s _ _ _
          have h37 : w22 (ad 13) = some (aZ g.2.1 6 (nA N2 13)) := by rw [ew22]; exact fU_k (hinj 13 12 (by decide) (by decide) (by decide)) h16
          have h38 : w22 (ad 14) = some (aZ g.2.1 6 (nA N2 14)) := by rw [ew22]; exact fU_k (hinj 14 12 (by decide) (by decide) (by decide)) h17
          have h39 : w22 (ad 15) = some (aZ g.2.1 6 (nA N2 15)) := by rw [ew22]; exact fU_k (hinj 15 12 (by decide) (by decide) (by decide)) h18
          have h40 : w22 (ad 16) = some (aZ g.2.1 6 (nA N2 16)) := by rw [ew22]; exact fU_k (hinj 16 12 (by decide) (by decide) (by decide)) h19
          have h41 : w22 (ad 17) = some (aZ g.2.1 6 (nA N2 17)) := by rw [ew22]; exact fU_k (hinj 17 12 (by decide) (by decide) (by decide)) h20
          have h42 : w22 (ad 18) = some (aZ g.2.1 64 (nA N2 18)) := by rw [ew22]; exact fU_k (hinj 18 12 (by decide) (by decide) (by decide)) h21
          refine lv_aload_n hx hb d_Mo_work_136 rfl (lv_at hl 1 rfl) ?_
          refine fw_get (ci := 5) (v := .ref (ad 14)) (C := rMo) (T := fMo) (N := 26) hx hb hts iMo hown hK hF.1 h23 rfl 21 (by decide) (hts _ t_529) (fun _ h9 => h9) rfl d_Mo_work_137 ?_
          refine lv_iload_n hx hb d_Mo_work_140 rfl (lv_at hl 2 rfl) ?_
          refine lv_dup2_11 hx hb d_Mo_work_141 rfl rfl ?_
          refine fw_iald hx hb hK hF.1 h38 (by decide) t rfl (by omega) d_Mo_work_142 ?_
          refine lv_iconst (v := iZ 1) hx hb d_Mo_work_143 rfl ?_
          refine zz_iadd hx hb d_Mo_work_144 ?_
          refine fw_iast (x := ((nA N2 14) t) + 1) hx hb hK hF h38 (by decide) t rfl (by omega) d_Mo_work_145 (fun H locs hF => ?_)
          obtain ⟨w43, ew43⟩ : ∃ zw : fw, zw = fU w22 (ad 14) (aZ g.2.1 6 (va_up (nA N2 14) t (((nA N2 14) t) + 1))) := ⟨_, rfl⟩
          have hF := fW_to ew43 hF
          have h44 : w43 b = some (.inr (5, [.int (iZ ((nTa N2 : Int))), .int (iZ (nTi N2)), .int (iZ (nId N2)), .int (iZ (nSw N2)), .int (iZ (nLa N2)), .int (iZ (nBu N2)), .int (bZ (nSt N2)), .ref (ad 0), .ref (ad 1), .ref (ad 2), .ref (ad 3), .ref (ad 4), .ref (ad 5), .ref (ad 6), .ref (ad 7), .ref (ad 8), .ref (ad 9), .ref (ad 10), .ref (ad 11), .ref (ad 12), .ref (ad 13), .ref (ad 14), .ref (ad 15), .ref (ad 16), .ref (ad 17), .ref (ad 18)])) := by rw [ew43]; exact fU_k (fw_ne h23 h38 ne_rl) h23
          have h45 : w43 (ad 0) = some (aZ g.2.1 6 (nA N2 0)) := by rw [ew43]; exact fU_k (hinj 0 14 (by decide) (by decide) (by decide)) h24
          have h46 : w43 (ad 1) = some (aZ g.2.1 6 (nA N2 1)) := by rw [ew43]; exact fU_k (hinj 1 14 (by decide) (by decide) (by decide)) h25
          have h47 : w43 (ad 2) = some (aZ g.2.1 6 (nA N2 2)) := by rw [ew43]; exact fU_k (hinj 2 14 (by decide) (by decide) (by decide)) h26
          have h48 : w43 (ad 3) = some (aZ g.2.1 6 (nA N2 3)) := by rw [ew43]; exact fU_k (hinj 3 14 (by decide) (by decide) (by decide)) h27
          have h49 : w43 (ad 4) = some (aZ g.2.1 6 (nA N2 4)) := by rw [ew43]; exact fU_k (hinj 4 14 (by decide) (by decide) (by decide)) h28
          have h50 : w43 (ad 5) = some (aZ g.2.1 4 (nA N2 5)) := by rw [ew43]; exact fU_k (hinj 5 14 (by decide) (by decide) (by decide)) h29
          have h51 : w43 (ad 6) = some (aZ g.2.1 6 (nA N2 6)) := by rw [ew43]; exact fU_k (hinj 6 14 (by decide) (by decide) (by decide)) h30
          have h52 : w43 (ad 7) = some (aZ g.2.1 18 (nA N2 7)) := by rw [ew43]; exact fU_k (hinj 7 14 (by decide) (by decide) (by decide)) h31
          have h53 : w43 (ad 8) = some (aZ g.2.1 18 (nA N2 8)) := by rw [ew43]; exact fU_k (hinj 8 14 (by decide) (by decide) (by decide)) h32
          have h54 : w43 (ad 9) = some (aZ g.2.1 18 (nA N2 9)) := by rw [ew43]; exact fU_k (hinj 9 14 (by decide) (by decide) (by decide)) h33
          have h55 : w43 (ad 10) = some (aZ g.2.1 6 (va_up (nA N2 10) t (((nA N2 10) t) - 1))) := by rw [ew43]; exact fU_k (hinj 10 14 (by decide) (by decide) (by decide)) h34
          have h56 : w43 (ad 11) = some (aZ g.2.1 48 (nA N2 11)) := by rw [ew43]; exact fU_k (hinj 11 14 (by decide) (by decide) (by decide)) h35
          have h57 : w43 (ad 12) = some (aZ g.2.1 6 (va_up (nA N2 12) t 0)) := by rw [ew43]; exact fU_k (hinj 12 14 (by decide) (by decide) (by decide)) h36
          have h58 : w43 (ad 13) = some (aZ g.2.1 6 (nA N2 13)) := by rw [ew43]; exact fU_k (hinj 13 14 (by decide) (by decide) (by decide)) h37
          have h59 : w43 (ad 14) = some (aZ g.2.1 6 (va_up (nA N2 14) t (((nA N2 14) t) + 1))) := by rw [ew43]; exact fU_s _ _ _
          have h60 : w43 (ad 15) = some (aZ g.2.1 6 (nA N2 15)) := by rw [ew43]; exact fU_k (hinj 15 14 (by decide) (by decide) (by decide)) h39
          have h61 : w43 (ad 16) = some (aZ g.2.1 6 (nA N2 16)) := by rw [ew43]; exact fU_k (hinj 16 14 (by decide) (by decide) (by decide)) h40
          have h62 : w43 (ad 17) = some (aZ g.2.1 6 (nA N2 17)) := by rw [ew43]; exact fU_k (hinj 17 14 (by decide) (by decide) (by decide)) h41
          have h63 : w43 (ad 18) = some (aZ g.2.1 64 (nA N2 18)) := by rw [ew43]; exact fU_k (hinj 18 14 (by decide) (by decide) (by decide)) h42
          exact rw_vret hx hb hr hlocks d_Mo_work_146 (by omega) (by omega) hF ⟨(by subst eN2; rw [← hfin]; exact ⟨h44, h45, h46, h47, h48, h49, h50, h51, h52, h53, h54, h55, h56, h57, h58, h59, h60, h61, h62, h63, hinj⟩), fun q hq => (show w43 q = w2 q from by rw [ew43, fU_n (own_ne hq (hO.2 14 (by decide))), ew22, fU_n (own_ne hq (hO.2 12 (by decide))), ew1, fU_n (own_ne hq (hO.2 10 (by decide)))]).trans (hof q hq)⟩
        · exfalso; omega
      | succ f ih =>
        intro i k N2 w2 H locs hif hk eN2 hM2 hof hF ls hl
        obtain ⟨hmo, qa0, qa1, qa2, qa3, qa4, qa5, qa6, qa7, qa8, qa9, qa10, qa11, qa12, qa13, qa14, qa15, qa16, qa17, qa18, hinj⟩ := id hM2
        refine lv_iload_n hx hb d_Mo_work_88 rfl (lv_at hl 0 rfl) ?_
        refine lv_iload_n hx hb d_Mo_work_89 rfl (lv_at hl 2 rfl) ?_
        refine lv_bipush (v := iZ 8) hx hb d_Mo_work_90 (by decide) ?_
        refine zz_imul hx hb d_Mo_work_92 ?_
        refine lv_bipush (v := iZ 7) hx hb d_Mo_work_93 (by decide) ?_
        refine zz_iadd hx hb d_Mo_work_95 ?_
        refine zz_icmp_ge (tgt := 119) hx hb d_Mo_work_96 (by decide) ⟨by omega, by omega⟩ ⟨by omega, by omega⟩ (fun c96 => ?_) (fun c96 => ?_)
        · exfalso; omega
        · refine lv_aload_n hx hb d_Mo_work_99 rfl (lv_at hl 1 rfl) ?_
          refine fw_get (ci := 5) (v := .ref (ad 11)) (C := rMo) (T := fMo) (N := 26) hx hb hts iMo hown hK hF.1 hmo rfl 18 (by decide) (hts _ t_526) (fun _ h9 => h9) rfl d_Mo_work_100 ?_
          refine lv_iload_n hx hb d_Mo_work_103 rfl (lv_at hl 0 rfl) ?_
          refine lv_aload_n hx hb d_Mo_work_104 rfl (lv_at hl 1 rfl) ?_
          refine fw_get (ci := 5) (v := .ref (ad 11)) (C := rMo) (T := fMo) (N := 26) hx hb hts iMo hown hK hF.1 hmo rfl 18 (by decide) (hts _ t_526) (fun _ h9 => h9) rfl d_Mo_work_105 ?_
          refine lv_iload_n hx hb d_Mo_work_108 rfl (lv_at hl 0 rfl) ?_
          refine lv_iconst (v := iZ 1) hx hb d_Mo_work_109 rfl ?_
          refine zz_iadd hx hb d_Mo_work_110 ?_
          refine fw_iald hx hb hK hF.1 qa11 (by decide) ((k + 1)) rfl (by omega) d_Mo_work_111 ?_
          refine fw_iast (x := (nA N2 11) ((k + 1))) hx hb hK hF qa11 (by decide) k rfl (by omega) d_Mo_work_112 (fun H locs hF => ?_)
          obtain ⟨w64, ew64⟩ : ∃ zw : fw, zw = fU w2 (ad 11) (aZ g.2.1 48 (va_up (nA N2 11) k ((nA N2 11) ((k + 1))))) := ⟨_, rfl⟩
          have hF := fW_to ew64 hF
          have h65 : w64 b = some (.inr (5, [.int (iZ ((nTa N2 : Int))), .int (iZ (nTi N2)), .int (iZ (nId N2)), .int (iZ (nSw N2)), .int (iZ (nLa N2)), .int (iZ (nBu N2)), .int (bZ (nSt N2)), .ref (ad 0), .ref (ad 1), .ref (ad 2), .ref (ad 3), .ref (ad 4), .ref (ad 5), .ref (ad 6), .ref (ad 7), .ref (ad 8), .ref (ad 9), .ref (ad 10), .ref (ad 11), .ref (ad 12), .ref (ad 13), .ref (ad 14), .ref (ad 15), .ref (ad 16), .ref (ad 17), .ref (ad 18)])) := by rw [ew64]; exact fU_k (fw_ne hmo qa11 ne_rl) hmo
          have h66 : w64 (ad 0) = some (aZ g.2.1 6 (nA N2 0)) := by rw [ew64]; exact fU_k (hinj 0 11 (by decide) (by decide) (by decide)) qa0
          have h67 : w64 (ad 1) = some (aZ g.2.1 6 (nA N2 1)) := by rw [ew64]; exact fU_k (hinj 1 11 (by decide) (by decide) (by decide)) qa1
          have h68 : w64 (ad 2) = some (aZ g.2.1 6 (nA N2 2)) := by rw [ew64]; exact fU_k (hinj 2 11 (by decide) (by decide) (by decide)) qa2
          have h69 : w64 (ad 3) = some (aZ g.2.1 6 (nA N2 3)) := by rw [ew64]; exact fU_k (hinj 3 11 (by decide) (by decide) (by decide)) qa3
          have h70 : w64 (ad 4) = some (aZ g.2.1 6 (nA N2 4)) := by rw [ew64]; exact fU_k (hinj 4 11 (by decide) (by decide) (by decide)) qa4
          have h71 : w64 (ad 5) = some (aZ g.2.1 4 (nA N2 5)) := by rw [ew64]; exact fU_k (hinj 5 11 (by decide) (by decide) (by decide)) qa5
          have h72 : w64 (ad 6) = some (aZ g.2.1 6 (nA N2 6)) := by rw [ew64]; exact fU_k (hinj 6 11 (by decide) (by decide) (by decide)) qa6
          have h73 : w64 (ad 7) = some (aZ g.2.1 18 (nA N2 7)) := by rw [ew64]; exact fU_k (hinj 7 11 (by decide) (by decide) (by decide)) qa7
          have h74 : w64 (ad 8) = some (aZ g.2.1 18 (nA N2 8)) := by rw [ew64]; exact fU_k (hinj 8 11 (by decide) (by decide) (by decide)) qa8
          have h75 : w64 (ad 9) = some (aZ g.2.1 18 (nA N2 9)) := by rw [ew64]; exact fU_k (hinj 9 11 (by decide) (by decide) (by decide)) qa9
          have h76 : w64 (ad 10) = some (aZ g.2.1 6 (nA N2 10)) := by rw [ew64]; exact fU_k (hinj 10 11 (by decide) (by decide) (by decide)) qa10
          have h77 : w64 (ad 11) = some (aZ g.2.1 48 (va_up (nA N2 11) k ((nA N2 11) ((k + 1))))) := by rw [ew64]; exact fU_s _ _ _
          have h78 : w64 (ad 12) = some (aZ g.2.1 6 (nA N2 12)) := by rw [ew64]; exact fU_k (hinj 12 11 (by decide) (by decide) (by decide)) qa12
          have h79 : w64 (ad 13) = some (aZ g.2.1 6 (nA N2 13)) := by rw [ew64]; exact fU_k (hinj 13 11 (by decide) (by decide) (by decide)) qa13
          have h80 : w64 (ad 14) = some (aZ g.2.1 6 (nA N2 14)) := by rw [ew64]; exact fU_k (hinj 14 11 (by decide) (by decide) (by decide)) qa14
          have h81 : w64 (ad 15) = some (aZ g.2.1 6 (nA N2 15)) := by rw [ew64]; exact fU_k (hinj 15 11 (by decide) (by decide) (by decide)) qa15
          have h82 : w64 (ad 16) = some (aZ g.2.1 6 (nA N2 16)) := by rw [ew64]; exact fU_k (hinj 16 11 (by decide) (by decide) (by decide)) qa16
          have h83 : w64 (ad 17) = some (aZ g.2.1 6 (nA N2 17)) := by rw [ew64]; exact fU_k (hinj 17 11 (by decide) (by decide) (by decide)) qa17
          have h84 : w64 (ad 18) = some (aZ g.2.1 64 (nA N2 18)) := by rw [ew64]; exact fU_k (hinj 18 11 (by decide) (by decide) (by decide)) qa18
          refine lv_iinc (v := iZ (((k : Int)) + 1)) (lv' := [(3, .int (iZ (((k : Int)) + 1))), (0, .ref b), (1, .int (iZ ((t : Int)))), (2, .int (iZ x))]) hx hb d_Mo_work_113 hl (k := 0) rfl (iZ_add _ _) (by decide) rfl (fun ls hl => ?_)
          refine lv_goto (tgt := 88) hx hb d_Mo_work_116 (by decide) ?_
          exact ih (i + 1) (k + 1) (setA NB 11 (shI (nA NB 11) (t * 8) (i + 1))) w64 H locs (by omega) (by omega) rfl (by subst eN2; subst hk; exact ⟨h65, h66, h67, h68, h69, h70, h71, h72, h73, h74, h75, h76, h77, h78, h79, h80, h81, h82, h83, h84, hinj⟩) (fun q hq => (show w64 q = w2 q from by rw [ew64, fU_n (own_ne hq (hO.2 11 (by decide)))]).trans (hof q hq)) hF ls (lv_sub hl [0, 1, 2, 3] rfl)
    exact lp 7 0 (t * 8) (setA NB 11 (shI (nA NB 11) (t * 8) 0)) wB H locs (by omega) (by omega) rfl hMB hofB hF ls (lv_sub hl [0, 2, 3, 1] rfl)
  refine lv_aload_n hx hb d_Mo_work_0 rfl (lv_at hl 0 rfl) ?_
  refine fw_get (ci := 5) (v := .ref (ad 12)) (C := rMo) (T := fMo) (N := 26) hx hb hts iMo hown hK hF.1 hmo rfl 19 (by decide) (hts _ t_527) (fun _ h9 => h9) rfl d_Mo_work_1 ?_
  refine lv_iload_n hx hb d_Mo_work_4 rfl (lv_at hl 1 rfl) ?_
  refine lv_dup2_11 hx hb d_Mo_work_5 rfl rfl ?_
  refine fw_iald hx hb hK hF.1 qa12 (by decide) t rfl (by omega) d_Mo_work_6 ?_
  refine lv_iconst (v := iZ 1) hx hb d_Mo_work_7 rfl ?_
  refine zz_iadd hx hb d_Mo_work_8 ?_
  refine fw_iast (x := ((nA N 12) t) + 1) hx hb hK hF qa12 (by decide) t rfl (by omega) d_Mo_work_9 (fun H locs hF => ?_)
  obtain ⟨w85, ew85⟩ : ∃ zw : fw, zw = fU w (ad 12) (aZ g.2.1 6 (va_up (nA N 12) t (((nA N 12) t) + 1))) := ⟨_, rfl⟩
  have hF := fW_to ew85 hF
  have h86 : w85 b = some (.inr (5, [.int (iZ ((nTa N : Int))), .int (iZ (nTi N)), .int (iZ (nId N)), .int (iZ (nSw N)), .int (iZ (nLa N)), .int (iZ (nBu N)), .int (bZ (nSt N)), .ref (ad 0), .ref (ad 1), .ref (ad 2), .ref (ad 3), .ref (ad 4), .ref (ad 5), .ref (ad 6), .ref (ad 7), .ref (ad 8), .ref (ad 9), .ref (ad 10), .ref (ad 11), .ref (ad 12), .ref (ad 13), .ref (ad 14), .ref (ad 15), .ref (ad 16), .ref (ad 17), .ref (ad 18)])) := by rw [ew85]; exact fU_k (fw_ne hmo qa12 ne_rl) hmo
  have h87 : w85 (ad 0) = some (aZ g.2.1 6 (nA N 0)) := by rw [ew85]; exact fU_k (hinj 0 12 (by decide) (by decide) (by decide)) qa0
  have h88 : w85 (ad 1) = some (aZ g.2.1 6 (nA N 1)) := by rw [ew85]; exact fU_k (hinj 1 12 (by decide) (by decide) (by decide)) qa1
  have h89 : w85 (ad 2) = some (aZ g.2.1 6 (nA N 2)) := by rw [ew85]; exact fU_k (hinj 2 12 (by decide) (by decide) (by decide)) qa2
  have h90 : w85 (ad 3) = some (aZ g.2.1 6 (nA N 3)) := by rw [ew85]; exact fU_k (hinj 3 12 (by decide) (by decide) (by decide)) qa3
  have h91 : w85 (ad 4) = some (aZ g.2.1 6 (nA N 4)) := by rw [ew85]; exact fU_k (hinj 4 12 (by decide) (by decide) (by decide)) qa4
  have h92 : w85 (ad 5) = some (aZ g.2.1 4 (nA N 5)) := by rw [ew85]; exact fU_k (hinj 5 12 (by decide) (by decide) (by decide)) qa5
  have h93 : w85 (ad 6) = some (aZ g.2.1 6 (nA N 6)) := by rw [ew85]; exact fU_k (hinj 6 12 (by decide) (by decide) (by decide)) qa6
  have h94 : w85 (ad 7) = some (aZ g.2.1 18 (nA N 7)) := by rw [ew85]; exact fU_k (hinj 7 12 (by decide) (by decide) (by decide)) qa7
  have h95 : w85 (ad 8) = some (aZ g.2.1 18 (nA N 8)) := by rw [ew85]; exact fU_k (hinj 8 12 (by decide) (by decide) (by decide)) qa8
  have h96 : w85 (ad 9) = some (aZ g.2.1 18 (nA N 9)) := by rw [ew85]; exact fU_k (hinj 9 12 (by decide) (by decide) (by decide)) qa9
  have h97 : w85 (ad 10) = some (aZ g.2.1 6 (nA N 10)) := by rw [ew85]; exact fU_k (hinj 10 12 (by decide) (by decide) (by decide)) qa10
  have h98 : w85 (ad 11) = some (aZ g.2.1 48 (nA N 11)) := by rw [ew85]; exact fU_k (hinj 11 12 (by decide) (by decide) (by decide)) qa11
  have h99 : w85 (ad 12) = some (aZ g.2.1 6 (va_up (nA N 12) t (((nA N 12) t) + 1))) := by rw [ew85]; exact fU_s _ _ _
  have h100 : w85 (ad 13) = some (aZ g.2.1 6 (nA N 13)) := by rw [ew85]; exact fU_k (hinj 13 12 (by decide) (by decide) (by decide)) qa13
  have h101 : w85 (ad 14) = some (aZ g.2.1 6 (nA N 14)) := by rw [ew85]; exact fU_k (hinj 14 12 (by decide) (by decide) (by decide)) qa14
  have h102 : w85 (ad 15) = some (aZ g.2.1 6 (nA N 15)) := by rw [ew85]; exact fU_k (hinj 15 12 (by decide) (by decide) (by decide)) qa15
  have h103 : w85 (ad 16) = some (aZ g.2.1 6 (nA N 16)) := by rw [ew85]; exact fU_k (hinj 16 12 (by decide) (by decide) (by decide)) qa16
  have h104 : w85 (ad 17) = some (aZ g.2.1 6 (nA N 17)) := by rw [ew85]; exact fU_k (hinj 17 12 (by decide) (by decide) (by decide)) qa17
  have h105 : w85 (ad 18) = some (aZ g.2.1 64 (nA N 18)) := by rw [ew85]; exact fU_k (hinj 18 12 (by decide) (by decide) (by decide)) qa18
  refine lv_iload_n hx hb d_Mo_work_10 rfl (lv_at hl 1 rfl) ?_
  refine lv_aload_n hx hb d_Mo_work_11 rfl (lv_at hl 0 rfl) ?_
  refine fw_get (ci := 5) (v := .int (iZ (nBu N))) (C := rMo) (T := fMo) (N := 26) hx hb hts iMo hown hK hF.1 h86 rfl 5 (by decide) (hts _ t_513) (fun _ h9 => h9) rfl d_Mo_work_12 ?_
  refine zz_icmp_eq (tgt := 28) hx hb d_Mo_work_15 (by decide) ⟨by omega, by omega⟩ ⟨by omega, by omega⟩ (fun c15 => ?_) (fun c15 => ?_)
  · refine lv_aload_n hx hb d_Mo_work_28 rfl (lv_at hl 0 rfl) ?_
    refine lv_iload_n hx hb d_Mo_work_29 rfl (lv_at hl 1 rfl) ?_
    refine fw_put (ci := 5) (v := .int (iZ ((t : Int)))) (ty := .int) (C := rMo) (T := fMo) (N := 26) hx hb hts iMo yMo_t yMo_ok yMo_nm hown hK hF h86 rfl 5 (by decide) (hts _ t_513) (fun _ h9 => h9) rfl (by decide +kernel) rfl rfl (Nat.le_of_ble_eq_true rfl) d_Mo_work_30 (fun H locs hF => ?_)
    obtain ⟨w106, ew106⟩ : ∃ zw : fw, zw = fU w85 b (.inr (5, [.int (iZ ((nTa N : Int))), .int (iZ (nTi N)), .int (iZ (nId N)), .int (iZ (nSw N)), .int (iZ (nLa N)), .int (iZ ((t : Int))), .int (bZ (nSt N)), .ref (ad 0), .ref (ad 1), .ref (ad 2), .ref (ad 3), .ref (ad 4), .ref (ad 5), .ref (ad 6), .ref (ad 7), .ref (ad 8), .ref (ad 9), .ref (ad 10), .ref (ad 11), .ref (ad 12), .ref (ad 13), .ref (ad 14), .ref (ad 15), .ref (ad 16), .ref (ad 17), .ref (ad 18)])) := ⟨_, rfl⟩
    have hF := fW_to ew106 hF
    have h107 : w106 b = some (.inr (5, [.int (iZ ((nTa N : Int))), .int (iZ (nTi N)), .int (iZ (nId N)), .int (iZ (nSw N)), .int (iZ (nLa N)), .int (iZ ((t : Int))), .int (bZ (nSt N)), .ref (ad 0), .ref (ad 1), .ref (ad 2), .ref (ad 3), .ref (ad 4), .ref (ad 5), .ref (ad 6), .ref (ad 7), .ref (ad 8), .ref (ad 9), .ref (ad 10), .ref (ad 11), .ref (ad 12), .ref (ad 13), .ref (ad 14), .ref (ad 15), .ref (ad 16), .ref (ad 17), .ref (ad 18)])) := by rw [ew106]; exact fU_s _ _ _
    have h108 : w106 (ad 0) = some (aZ g.2.1 6 (nA N 0)) := by rw [ew106]; exact fU_k (fw_ne h87 h86 ne_lr) h87
    have h109 : w106 (ad 1) = some (aZ g.2.1 6 (nA N 1)) := by rw [ew106]; exact fU_k (fw_ne h88 h86 ne_lr) h88
    have h110 : w106 (ad 2) = some (aZ g.2.1 6 (nA N 2)) := by rw [ew106]; exact fU_k (fw_ne h89 h86 ne_lr) h89
    have h111 : w106 (ad 3) = some (aZ g.2.1 6 (nA N 3)) := by rw [ew106]; exact fU_k (fw_ne h90 h86 ne_lr) h90
    have h112 : w106 (ad 4) = some (aZ g.2.1 6 (nA N 4)) := by rw [ew106]; exact fU_k (fw_ne h91 h86 ne_lr) h91
    have h113 : w106 (ad 5) = some (aZ g.2.1 4 (nA N 5)) := by rw [ew106]; exact fU_k (fw_ne h92 h86 ne_lr) h92
    have h114 : w106 (ad 6) = some (aZ g.2.1 6 (nA N 6)) := by rw [ew106]; exact fU_k (fw_ne h93 h86 ne_lr) h93
    have h115 : w106 (ad 7) = some (aZ g.2.1 18 (nA N 7)) := by rw [ew106]; exact fU_k (fw_ne h94 h86 ne_lr) h94
    have h116 : w106 (ad 8) = some (aZ g.2.1 18 (nA N 8)) := by rw [ew106]; exact fU_k (fw_ne h95 h86 ne_lr) h95
    have h117 : w106 (ad 9) = some (aZ g.2.1 18 (nA N 9)) := by rw [ew106]; exact fU_k (fw_ne h96 h86 ne_lr) h96
    have h118 : w106 (ad 10) = some (aZ g.2.1 6 (nA N 10)) := by rw [ew106]; exact fU_k (fw_ne h97 h86 ne_lr) h97
    have h119 : w106 (ad 11) = some (aZ g.2.1 48 (nA N 11)) := by rw [ew106]; exact fU_k (fw_ne h98 h86 ne_lr) h98
    have h120 : w106 (ad 12) = some (aZ g.2.1 6 (va_up (nA N 12) t (((nA N 12) t) + 1))) := by rw [ew106]; exact fU_k (fw_ne h99 h86 ne_lr) h99
    have h121 : w106 (ad 13) = some (aZ g.2.1 6 (nA N 13)) := by rw [ew106]; exact fU_k (fw_ne h100 h86 ne_lr) h100
    have h122 : w106 (ad 14) = some (aZ g.2.1 6 (nA N 14)) := by rw [ew106]; exact fU_k (fw_ne h101 h86 ne_lr) h101
    have h123 : w106 (ad 15) = some (aZ g.2.1 6 (nA N 15)) := by rw [ew106]; exact fU_k (fw_ne h102 h86 ne_lr) h102
    have h124 : w106 (ad 16) = some (aZ g.2.1 6 (nA N 16)) := by rw [ew106]; exact fU_k (fw_ne h103 h86 ne_lr) h103
    have h125 : w106 (ad 17) = some (aZ g.2.1 6 (nA N 17)) := by rw [ew106]; exact fU_k (fw_ne h104 h86 ne_lr) h104
    have h126 : w106 (ad 18) = some (aZ g.2.1 64 (nA N 18)) := by rw [ew106]; exact fU_k (fw_ne h105 h86 ne_lr) h105
    refine lv_aload_n hx hb d_Mo_work_33 rfl (lv_at hl 0 rfl) ?_
    refine fw_get (ci := 5) (v := .ref (ad 12)) (C := rMo) (T := fMo) (N := 26) hx hb hts iMo hown hK hF.1 h107 rfl 19 (by decide) (hts _ t_527) (fun _ h9 => h9) rfl d_Mo_work_34 ?_
    refine lv_iload_n hx hb d_Mo_work_37 rfl (lv_at hl 1 rfl) ?_
    refine fw_iald hx hb hK hF.1 h120 (by decide) t rfl (by omega) d_Mo_work_38 ?_
    refine lv_aload_n hx hb d_Mo_work_39 rfl (lv_at hl 0 rfl) ?_
    refine fw_get (ci := 5) (v := .ref (ad 1)) (C := rMo) (T := fMo) (N := 26) hx hb hts iMo hown hK hF.1 h107 rfl 8 (by decide) (hts _ t_516) (fun _ h9 => h9) rfl d_Mo_work_40 ?_
    refine lv_iload_n hx hb d_Mo_work_43 rfl (lv_at hl 1 rfl) ?_
    refine fw_iald hx hb hK hF.1 h109 (by decide) t rfl (by omega) d_Mo_work_44 ?_
    refine zz_icmp_ge (tgt := 49) hx hb d_Mo_work_45 (by decide) ⟨by omega, by omega⟩ ⟨by omega, by omega⟩ (fun c45 => ?_) (fun c45 => ?_)
    · refine lv_aload_n hx hb d_Mo_work_49 rfl (lv_at hl 0 rfl) ?_
      refine fw_get (ci := 5) (v := .int (iZ (nTi N))) (C := rMo) (T := fMo) (N := 26) hx hb hts iMo hown hK hF.1 h107 rfl 1 (by decide) (hts _ t_509) (fun _ h9 => h9) rfl d_Mo_work_50 ?_
      refine lv_iconst (v := iZ 1) hx hb d_Mo_work_53 rfl ?_
      refine zz_iadd hx hb d_Mo_work_54 ?_
      refine lv_aload_n hx hb d_Mo_work_55 rfl (lv_at hl 0 rfl) ?_
      refine fw_get (ci := 5) (v := .ref (ad 11)) (C := rMo) (T := fMo) (N := 26) hx hb hts iMo hown hK hF.1 h107 rfl 18 (by decide) (hts _ t_526) (fun _ h9 => h9) rfl d_Mo_work_56 ?_
      refine lv_iload_n hx hb d_Mo_work_59 rfl (lv_at hl 1 rfl) ?_
      refine lv_bipush (v := iZ 8) hx hb d_Mo_work_60 (by decide) ?_
      refine zz_imul hx hb d_Mo_work_62 ?_
      refine fw_iald hx hb hK hF.1 h119 (by decide) ((t * 8)) (by omega) (by omega) d_Mo_work_63 ?_
      refine zz_isub hx hb d_Mo_work_64 ?_
      refine lv_istore_n (lv' := [(2, .int (iZ (((nTi N) + 1) - ((nA N 11) ((t * 8)))))), (0, .ref b), (1, .int (iZ ((t : Int))))]) hx hb d_Mo_work_65 rfl hl (by decide) rfl (fun ls hl => ?_)
      refine lv_iload_n hx hb d_Mo_work_66 rfl (lv_at hl 0 rfl) ?_
      refine lv_aload_n hx hb d_Mo_work_67 rfl (lv_at hl 1 rfl) ?_
      refine fw_get (ci := 5) (v := .ref (ad 16)) (C := rMo) (T := fMo) (N := 26) hx hb hts iMo hown hK hF.1 h107 rfl 23 (by decide) (hts _ t_531) (fun _ h9 => h9) rfl d_Mo_work_68 ?_
      refine lv_iload_n hx hb d_Mo_work_71 rfl (lv_at hl 2 rfl) ?_
      refine fw_iald hx hb hK hF.1 h124 (by decide) t rfl (by omega) d_Mo_work_72 ?_
      refine zz_icmp_le (tgt := 83) hx hb d_Mo_work_73 (by decide) ⟨by omega, by omega⟩ ⟨by omega, by omega⟩ (fun c73 => ?_) (fun c73 => ?_)
      · exact tail (wkW N t) w106 H locs _ (by rw [wkM, if_neg (by omega)]) (by rw [wkW, if_pos c15, if_neg (by omega)]; exact ⟨h107, h108, h109, h110, h111, h112, h113, h114, h115, h116, h117, h118, h119, h120, h121, h122, h123, h124, h125, h126, hinj⟩) (fun q hq => by rw [ew106, fU_n (own_ne hq hO.1), ew85, fU_n (own_ne hq (hO.2 12 (by decide)))]) hF ls (lv_sub hl [0, 1, 2] rfl)
      · refine lv_aload_n hx hb d_Mo_work_76 rfl (lv_at hl 1 rfl) ?_
        refine fw_get (ci := 5) (v := .ref (ad 16)) (C := rMo) (T := fMo) (N := 26) hx hb hts iMo hown hK hF.1 h107 rfl 23 (by decide) (hts _ t_531) (fun _ h9 => h9) rfl d_Mo_work_77 ?_
        refine lv_iload_n hx hb d_Mo_work_80 rfl (lv_at hl 2 rfl) ?_
        refine lv_iload_n hx hb d_Mo_work_81 rfl (lv_at hl 0 rfl) ?_
        refine fw_iast (x := ((nTi N) + 1) - ((nA N 11) ((t * 8)))) hx hb hK hF h124 (by decide) t rfl (by omega) d_Mo_work_82 (fun H locs hF => ?_)
        obtain ⟨w127, ew127⟩ : ∃ zw : fw, zw = fU w106 (ad 16) (aZ g.2.1 6 (va_up (nA N 16) t (((nTi N) + 1) - ((nA N 11) ((t * 8)))))) := ⟨_, rfl⟩
        have hF := fW_to ew127 hF
        have h128 : w127 b = some (.inr (5, [.int (iZ ((nTa N : Int))), .int (iZ (nTi N)), .int (iZ (nId N)), .int (iZ (nSw N)), .int (iZ (nLa N)), .int (iZ ((t : Int))), .int (bZ (nSt N)), .ref (ad 0), .ref (ad 1), .ref (ad 2), .ref (ad 3), .ref (ad 4), .ref (ad 5), .ref (ad 6), .ref (ad 7), .ref (ad 8), .ref (ad 9), .ref (ad 10), .ref (ad 11), .ref (ad 12), .ref (ad 13), .ref (ad 14), .ref (ad 15), .ref (ad 16), .ref (ad 17), .ref (ad 18)])) := by rw [ew127]; exact fU_k (fw_ne h107 h124 ne_rl) h107
        have h129 : w127 (ad 0) = some (aZ g.2.1 6 (nA N 0)) := by rw [ew127]; exact fU_k (hinj 0 16 (by decide) (by decide) (by decide)) h108
        have h130 : w127 (ad 1) = some (aZ g.2.1 6 (nA N 1)) := by rw [ew127]; exact fU_k (hinj 1 16 (by decide) (by decide) (by decide)) h109
        have h131 : w127 (ad 2) = some (aZ g.2.1 6 (nA N 2)) := by rw [ew127]; exact fU_k (hinj 2 16 (by decide) (by decide) (by decide)) h110
        have h132 : w127 (ad 3) = some (aZ g.2.1 6 (nA N 3)) := by rw [ew127]; exact fU_k (hinj 3 16 (by decide) (by decide) (by decide)) h111
        have h133 : w127 (ad 4) = some (aZ g.2.1 6 (nA N 4)) := by rw [ew127]; exact fU_k (hinj 4 16 (by decide) (by decide) (by decide)) h112
        have h134 : w127 (ad 5) = some (aZ g.2.1 4 (nA N 5)) := by rw [ew127]; exact fU_k (hinj 5 16 (by decide) (by decide) (by decide)) h113
        have h135 : w127 (ad 6) = some (aZ g.2.1 6 (nA N 6)) := by rw [ew127]; exact fU_k (hinj 6 16 (by decide) (by decide) (by decide)) h114
        have h136 : w127 (ad 7) = some (aZ g.2.1 18 (nA N 7)) := by rw [ew127]; exact fU_k (hinj 7 16 (by decide) (by decide) (by decide)) h115
        have h137 : w127 (ad 8) = some (aZ g.2.1 18 (nA N 8)) := by rw [ew127]; exact fU_k (hinj 8 16 (by decide) (by decide) (by decide)) h116
        have h138 : w127 (ad 9) = some (aZ g.2.1 18 (nA N 9)) := by rw [ew127]; exact fU_k (hinj 9 16 (by decide) (by decide) (by decide)) h117
        have h139 : w127 (ad 10) = some (aZ g.2.1 6 (nA N 10)) := by rw [ew127]; exact fU_k (hinj 10 16 (by decide) (by decide) (by decide)) h118
        have h140 : w127 (ad 11) = some (aZ g.2.1 48 (nA N 11)) := by rw [ew127]; exact fU_k (hinj 11 16 (by decide) (by decide) (by decide)) h119
        have h141 : w127 (ad 12) = some (aZ g.2.1 6 (va_up (nA N 12) t (((nA N 12) t) + 1))) := by rw [ew127]; exact fU_k (hinj 12 16 (by decide) (by decide) (by decide)) h120
        have h142 : w127 (ad 13) = some (aZ g.2.1 6 (nA N 13)) := by rw [ew127]; exact fU_k (hinj 13 16 (by decide) (by decide) (by decide)) h121
        have h143 : w127 (ad 14) = some (aZ g.2.1 6 (nA N 14)) := by rw [ew127]; exact fU_k (hinj 14 16 (by decide) (by decide) (by decide)) h122
        have h144 : w127 (ad 15) = some (aZ g.2.1 6 (nA N 15)) := by rw [ew127]; exact fU_k (hinj 15 16 (by decide) (by decide) (by decide)) h123
        have h145 : w127 (ad 16) = some (aZ g.2.1 6 (va_up (nA N 16) t (((nTi N) + 1) - ((nA N 11) ((t * 8)))))) := by rw [ew127]; exact fU_s _ _ _
        have h146 : w127 (ad 17) = some (aZ g.2.1 6 (nA N 17)) := by rw [ew127]; exact fU_k (hinj 17 16 (by decide) (by decide) (by decide)) h125
        have h147 : w127 (ad 18) = some (aZ g.2.1 64 (nA N 18)) := by rw [ew127]; exact fU_k (hinj 18 16 (by decide) (by decide) (by decide)) h126
        exact tail (wkW N t) w127 H locs _ (by rw [wkM, if_neg (by omega)]) (by rw [wkW, if_pos c15, if_pos (by omega)]; exact ⟨h128, h129, h130, h131, h132, h133, h134, h135, h136, h137, h138, h139, h140, h141, h142, h143, h144, h145, h146, h147, hinj⟩) (fun q hq => by rw [ew127, fU_n (own_ne hq (hO.2 16 (by decide))), ew106, fU_n (own_ne hq hO.1), ew85, fU_n (own_ne hq (hO.2 12 (by decide)))]) hF ls (lv_sub hl [0, 1, 2] rfl)
    · exact rw_vret hx hb hr hlocks d_Mo_work_48 (by omega) (by omega) hF ⟨(by rw [wkM, if_pos (by omega), wkA, if_pos c15]; exact ⟨h107, h108, h109, h110, h111, h112, h113, h114, h115, h116, h117, h118, h119, h120, h121, h122, h123, h124, h125, h126, hinj⟩), fun q hq => by rw [ew106, fU_n (own_ne hq hO.1), ew85, fU_n (own_ne hq (hO.2 12 (by decide)))]⟩
  · refine lv_aload_n hx hb d_Mo_work_18 rfl (lv_at hl 0 rfl) ?_
    refine lv_dup hx hb d_Mo_work_19 rfl ?_
    refine fw_get (ci := 5) (v := .int (iZ (nSw N))) (C := rMo) (T := fMo) (N := 26) hx hb hts iMo hown hK hF.1 h86 rfl 3 (by decide) (hts _ t_511) (fun _ h9 => h9) rfl d_Mo_work_20 ?_
    refine lv_iconst (v := iZ 1) hx hb d_Mo_work_23 rfl ?_
    refine zz_iadd hx hb d_Mo_work_24 ?_
    refine fw_put (ci := 5) (v := .int (iZ ((nSw N) + 1))) (ty := .int) (C := rMo) (T := fMo) (N := 26) hx hb hts iMo yMo_t yMo_ok yMo_nm hown hK hF h86 rfl 3 (by decide) (hts _ t_511) (fun _ h9 => h9) rfl (by decide +kernel) rfl rfl (Nat.le_of_ble_eq_true rfl) d_Mo_work_25 (fun H locs hF => ?_)
    obtain ⟨w148, ew148⟩ : ∃ zw : fw, zw = fU w85 b (.inr (5, [.int (iZ ((nTa N : Int))), .int (iZ (nTi N)), .int (iZ (nId N)), .int (iZ ((nSw N) + 1)), .int (iZ (nLa N)), .int (iZ (nBu N)), .int (bZ (nSt N)), .ref (ad 0), .ref (ad 1), .ref (ad 2), .ref (ad 3), .ref (ad 4), .ref (ad 5), .ref (ad 6), .ref (ad 7), .ref (ad 8), .ref (ad 9), .ref (ad 10), .ref (ad 11), .ref (ad 12), .ref (ad 13), .ref (ad 14), .ref (ad 15), .ref (ad 16), .ref (ad 17), .ref (ad 18)])) := ⟨_, rfl⟩
    have hF := fW_to ew148 hF
    have h149 : w148 b = some (.inr (5, [.int (iZ ((nTa N : Int))), .int (iZ (nTi N)), .int (iZ (nId N)), .int (iZ ((nSw N) + 1)), .int (iZ (nLa N)), .int (iZ (nBu N)), .int (bZ (nSt N)), .ref (ad 0), .ref (ad 1), .ref (ad 2), .ref (ad 3), .ref (ad 4), .ref (ad 5), .ref (ad 6), .ref (ad 7), .ref (ad 8), .ref (ad 9), .ref (ad 10), .ref (ad 11), .ref (ad 12), .ref (ad 13), .ref (ad 14), .ref (ad 15), .ref (ad 16), .ref (ad 17), .ref (ad 18)])) := by rw [ew148]; exact fU_s _ _ _
    have h150 : w148 (ad 0) = some (aZ g.2.1 6 (nA N 0)) := by rw [ew148]; exact fU_k (fw_ne h87 h86 ne_lr) h87
    have h151 : w148 (ad 1) = some (aZ g.2.1 6 (nA N 1)) := by rw [ew148]; exact fU_k (fw_ne h88 h86 ne_lr) h88
    have h152 : w148 (ad 2) = some (aZ g.2.1 6 (nA N 2)) := by rw [ew148]; exact fU_k (fw_ne h89 h86 ne_lr) h89
    have h153 : w148 (ad 3) = some (aZ g.2.1 6 (nA N 3)) := by rw [ew148]; exact fU_k (fw_ne h90 h86 ne_lr) h90
    have h154 : w148 (ad 4) = some (aZ g.2.1 6 (nA N 4)) := by rw [ew148]; exact fU_k (fw_ne h91 h86 ne_lr) h91
    have h155 : w148 (ad 5) = some (aZ g.2.1 4 (nA N 5)) := by rw [ew148]; exact fU_k (fw_ne h92 h86 ne_lr) h92
    have h156 : w148 (ad 6) = some (aZ g.2.1 6 (nA N 6)) := by rw [ew148]; exact fU_k (fw_ne h93 h86 ne_lr) h93
    have h157 : w148 (ad 7) = some (aZ g.2.1 18 (nA N 7)) := by rw [ew148]; exact fU_k (fw_ne h94 h86 ne_lr) h94
    have h158 : w148 (ad 8) = some (aZ g.2.1 18 (nA N 8)) := by rw [ew148]; exact fU_k (fw_ne h95 h86 ne_lr) h95
    have h159 : w148 (ad 9) = some (aZ g.2.1 18 (nA N 9)) := by rw [ew148]; exact fU_k (fw_ne h96 h86 ne_lr) h96
    have h160 : w148 (ad 10) = some (aZ g.2.1 6 (nA N 10)) := by rw [ew148]; exact fU_k (fw_ne h97 h86 ne_lr) h97
    have h161 : w148 (ad 11) = some (aZ g.2.1 48 (nA N 11)) := by rw [ew148]; exact fU_k (fw_ne h98 h86 ne_lr) h98
    have h162 : w148 (ad 12) = some (aZ g.2.1 6 (va_up (nA N 12) t (((nA N 12) t) + 1))) := by rw [ew148]; exact fU_k (fw_ne h99 h86 ne_lr) h99
    have h163 : w148 (ad 13) = some (aZ g.2.1 6 (nA N 13)) := by rw [ew148]; exact fU_k (fw_ne h100 h86 ne_lr) h100
    have h164 : w148 (ad 14) = some (aZ g.2.1 6 (nA N 14)) := by rw [ew148]; exact fU_k (fw_ne h101 h86 ne_lr) h101
    have h165 : w148 (ad 15) = some (aZ g.2.1 6 (nA N 15)) := by rw [ew148]; exact fU_k (fw_ne h102 h86 ne_lr) h102
    have h166 : w148 (ad 16) = some (aZ g.2.1 6 (nA N 16)) := by rw [ew148]; exact fU_k (fw_ne h103 h86 ne_lr) h103
    have h167 : w148 (ad 17) = some (aZ g.2.1 6 (nA N 17)) := by rw [ew148]; exact fU_k (fw_ne h104 h86 ne_lr) h104
    have h168 : w148 (ad 18) = some (aZ g.2.1 64 (nA N 18)) := by rw [ew148]; exact fU_k (fw_ne h105 h86 ne_lr) h105
    refine lv_aload_n hx hb d_Mo_work_28 rfl (lv_at hl 0 rfl) ?_
    refine lv_iload_n hx hb d_Mo_work_29 rfl (lv_at hl 1 rfl) ?_
    refine fw_put (ci := 5) (v := .int (iZ ((t : Int)))) (ty := .int) (C := rMo) (T := fMo) (N := 26) hx hb hts iMo yMo_t yMo_ok yMo_nm hown hK hF h149 rfl 5 (by decide) (hts _ t_513) (fun _ h9 => h9) rfl (by decide +kernel) rfl rfl (Nat.le_of_ble_eq_true rfl) d_Mo_work_30 (fun H locs hF => ?_)
    obtain ⟨w169, ew169⟩ : ∃ zw : fw, zw = fU w148 b (.inr (5, [.int (iZ ((nTa N : Int))), .int (iZ (nTi N)), .int (iZ (nId N)), .int (iZ ((nSw N) + 1)), .int (iZ (nLa N)), .int (iZ ((t : Int))), .int (bZ (nSt N)), .ref (ad 0), .ref (ad 1), .ref (ad 2), .ref (ad 3), .ref (ad 4), .ref (ad 5), .ref (ad 6), .ref (ad 7), .ref (ad 8), .ref (ad 9), .ref (ad 10), .ref (ad 11), .ref (ad 12), .ref (ad 13), .ref (ad 14), .ref (ad 15), .ref (ad 16), .ref (ad 17), .ref (ad 18)])) := ⟨_, rfl⟩
    have hF := fW_to ew169 hF
    have h170 : w169 b = some (.inr (5, [.int (iZ ((nTa N : Int))), .int (iZ (nTi N)), .int (iZ (nId N)), .int (iZ ((nSw N) + 1)), .int (iZ (nLa N)), .int (iZ ((t : Int))), .int (bZ (nSt N)), .ref (ad 0), .ref (ad 1), .ref (ad 2), .ref (ad 3), .ref (ad 4), .ref (ad 5), .ref (ad 6), .ref (ad 7), .ref (ad 8), .ref (ad 9), .ref (ad 10), .ref (ad 11), .ref (ad 12), .ref (ad 13), .ref (ad 14), .ref (ad 15), .ref (ad 16), .ref (ad 17), .ref (ad 18)])) := by rw [ew169]; exact fU_s _ _ _
    have h171 : w169 (ad 0) = some (aZ g.2.1 6 (nA N 0)) := by rw [ew169]; exact fU_k (fw_ne h150 h149 ne_lr) h150
    have h172 : w169 (ad 1) = some (aZ g.2.1 6 (nA N 1)) := by rw [ew169]; exact fU_k (fw_ne h151 h149 ne_lr) h151
    have h173 : w169 (ad 2) = some (aZ g.2.1 6 (nA N 2)) := by rw [ew169]; exact fU_k (fw_ne h152 h149 ne_lr) h152
    have h174 : w169 (ad 3) = some (aZ g.2.1 6 (nA N 3)) := by rw [ew169]; exact fU_k (fw_ne h153 h149 ne_lr) h153
    have h175 : w169 (ad 4) = some (aZ g.2.1 6 (nA N 4)) := by rw [ew169]; exact fU_k (fw_ne h154 h149 ne_lr) h154
    have h176 : w169 (ad 5) = some (aZ g.2.1 4 (nA N 5)) := by rw [ew169]; exact fU_k (fw_ne h155 h149 ne_lr) h155
    have h177 : w169 (ad 6) = some (aZ g.2.1 6 (nA N 6)) := by rw [ew169]; exact fU_k (fw_ne h156 h149 ne_lr) h156
    have h178 : w169 (ad 7) = some (aZ g.2.1 18 (nA N 7)) := by rw [ew169]; exact fU_k (fw_ne h157 h149 ne_lr) h157
    have h179 : w169 (ad 8) = some (aZ g.2.1 18 (nA N 8)) := by rw [ew169]; exact fU_k (fw_ne h158 h149 ne_lr) h158
    have h180 : w169 (ad 9) = some (aZ g.2.1 18 (nA N 9)) := by rw [ew169]; exact fU_k (fw_ne h159 h149 ne_lr) h159
    have h181 : w169 (ad 10) = some (aZ g.2.1 6 (nA N 10)) := by rw [ew169]; exact fU_k (fw_ne h160 h149 ne_lr) h160
    have h182 : w169 (ad 11) = some (aZ g.2.1 48 (nA N 11)) := by rw [ew169]; exact fU_k (fw_ne h161 h149 ne_lr) h161
    have h183 : w169 (ad 12) = some (aZ g.2.1 6 (va_up (nA N 12) t (((nA N 12) t) + 1))) := by rw [ew169]; exact fU_k (fw_ne h162 h149 ne_lr) h162
    have h184 : w169 (ad 13) = some (aZ g.2.1 6 (nA N 13)) := by rw [ew169]; exact fU_k (fw_ne h163 h149 ne_lr) h163
    have h185 : w169 (ad 14) = some (aZ g.2.1 6 (nA N 14)) := by rw [ew169]; exact fU_k (fw_ne h164 h149 ne_lr) h164
    have h186 : w169 (ad 15) = some (aZ g.2.1 6 (nA N 15)) := by rw [ew169]; exact fU_k (fw_ne h165 h149 ne_lr) h165
    have h187 : w169 (ad 16) = some (aZ g.2.1 6 (nA N 16)) := by rw [ew169]; exact fU_k (fw_ne h166 h149 ne_lr) h166
    have h188 : w169 (ad 17) = some (aZ g.2.1 6 (nA N 17)) := by rw [ew169]; exact fU_k (fw_ne h167 h149 ne_lr) h167
    have h189 : w169 (ad 18) = some (aZ g.2.1 64 (nA N 18)) := by rw [ew169]; exact fU_k (fw_ne h168 h149 ne_lr) h168
    refine lv_aload_n hx hb d_Mo_work_33 rfl (lv_at hl 0 rfl) ?_
    refine fw_get (ci := 5) (v := .ref (ad 12)) (C := rMo) (T := fMo) (N := 26) hx hb hts iMo hown hK hF.1 h170 rfl 19 (by decide) (hts _ t_527) (fun _ h9 => h9) rfl d_Mo_work_34 ?_
    refine lv_iload_n hx hb d_Mo_work_37 rfl (lv_at hl 1 rfl) ?_
    refine fw_iald hx hb hK hF.1 h183 (by decide) t rfl (by omega) d_Mo_work_38 ?_
    refine lv_aload_n hx hb d_Mo_work_39 rfl (lv_at hl 0 rfl) ?_
    refine fw_get (ci := 5) (v := .ref (ad 1)) (C := rMo) (T := fMo) (N := 26) hx hb hts iMo hown hK hF.1 h170 rfl 8 (by decide) (hts _ t_516) (fun _ h9 => h9) rfl d_Mo_work_40 ?_
    refine lv_iload_n hx hb d_Mo_work_43 rfl (lv_at hl 1 rfl) ?_
    refine fw_iald hx hb hK hF.1 h172 (by decide) t rfl (by omega) d_Mo_work_44 ?_
    refine zz_icmp_ge (tgt := 49) hx hb d_Mo_work_45 (by decide) ⟨by omega, by omega⟩ ⟨by omega, by omega⟩ (fun c45 => ?_) (fun c45 => ?_)
    · refine lv_aload_n hx hb d_Mo_work_49 rfl (lv_at hl 0 rfl) ?_
      refine fw_get (ci := 5) (v := .int (iZ (nTi N))) (C := rMo) (T := fMo) (N := 26) hx hb hts iMo hown hK hF.1 h170 rfl 1 (by decide) (hts _ t_509) (fun _ h9 => h9) rfl d_Mo_work_50 ?_
      refine lv_iconst (v := iZ 1) hx hb d_Mo_work_53 rfl ?_
      refine zz_iadd hx hb d_Mo_work_54 ?_
      refine lv_aload_n hx hb d_Mo_work_55 rfl (lv_at hl 0 rfl) ?_
      refine fw_get (ci := 5) (v := .ref (ad 11)) (C := rMo) (T := fMo) (N := 26) hx hb hts iMo hown hK hF.1 h170 rfl 18 (by decide) (hts _ t_526) (fun _ h9 => h9) rfl d_Mo_work_56 ?_
      refine lv_iload_n hx hb d_Mo_work_59 rfl (lv_at hl 1 rfl) ?_
      refine lv_bipush (v := iZ 8) hx hb d_Mo_work_60 (by decide) ?_
      refine zz_imul hx hb d_Mo_work_62 ?_
      refine fw_iald hx hb hK hF.1 h182 (by decide) ((t * 8)) (by omega) (by omega) d_Mo_work_63 ?_
      refine zz_isub hx hb d_Mo_work_64 ?_
      refine lv_istore_n (lv' := [(2, .int (iZ (((nTi N) + 1) - ((nA N 11) ((t * 8)))))), (0, .ref b), (1, .int (iZ ((t : Int))))]) hx hb d_Mo_work_65 rfl hl (by decide) rfl (fun ls hl => ?_)
      refine lv_iload_n hx hb d_Mo_work_66 rfl (lv_at hl 0 rfl) ?_
      refine lv_aload_n hx hb d_Mo_work_67 rfl (lv_at hl 1 rfl) ?_
      refine fw_get (ci := 5) (v := .ref (ad 16)) (C := rMo) (T := fMo) (N := 26) hx hb hts iMo hown hK hF.1 h170 rfl 23 (by decide) (hts _ t_531) (fun _ h9 => h9) rfl d_Mo_work_68 ?_
      refine lv_iload_n hx hb d_Mo_work_71 rfl (lv_at hl 2 rfl) ?_
      refine fw_iald hx hb hK hF.1 h187 (by decide) t rfl (by omega) d_Mo_work_72 ?_
      refine zz_icmp_le (tgt := 83) hx hb d_Mo_work_73 (by decide) ⟨by omega, by omega⟩ ⟨by omega, by omega⟩ (fun c73 => ?_) (fun c73 => ?_)
      · exact tail (wkW N t) w169 H locs _ (by rw [wkM, if_neg (by omega)]) (by rw [wkW, if_neg c15, if_neg (by omega)]; exact ⟨h170, h171, h172, h173, h174, h175, h176, h177, h178, h179, h180, h181, h182, h183, h184, h185, h186, h187, h188, h189, hinj⟩) (fun q hq => by rw [ew169, fU_n (own_ne hq hO.1), ew148, fU_n (own_ne hq hO.1), ew85, fU_n (own_ne hq (hO.2 12 (by decide)))]) hF ls (lv_sub hl [0, 1, 2] rfl)
      · refine lv_aload_n hx hb d_Mo_work_76 rfl (lv_at hl 1 rfl) ?_
        refine fw_get (ci := 5) (v := .ref (ad 16)) (C := rMo) (T := fMo) (N := 26) hx hb hts iMo hown hK hF.1 h170 rfl 23 (by decide) (hts _ t_531) (fun _ h9 => h9) rfl d_Mo_work_77 ?_
        refine lv_iload_n hx hb d_Mo_work_80 rfl (lv_at hl 2 rfl) ?_
        refine lv_iload_n hx hb d_Mo_work_81 rfl (lv_at hl 0 rfl) ?_
        refine fw_iast (x := ((nTi N) + 1) - ((nA N 11) ((t * 8)))) hx hb hK hF h187 (by decide) t rfl (by omega) d_Mo_work_82 (fun H locs hF => ?_)
        obtain ⟨w190, ew190⟩ : ∃ zw : fw, zw = fU w169 (ad 16) (aZ g.2.1 6 (va_up (nA N 16) t (((nTi N) + 1) - ((nA N 11) ((t * 8)))))) := ⟨_, rfl⟩
        have hF := fW_to ew190 hF
        have h191 : w190 b = some (.inr (5, [.int (iZ ((nTa N : Int))), .int (iZ (nTi N)), .int (iZ (nId N)), .int (iZ ((nSw N) + 1)), .int (iZ (nLa N)), .int (iZ ((t : Int))), .int (bZ (nSt N)), .ref (ad 0), .ref (ad 1), .ref (ad 2), .ref (ad 3), .ref (ad 4), .ref (ad 5), .ref (ad 6), .ref (ad 7), .ref (ad 8), .ref (ad 9), .ref (ad 10), .ref (ad 11), .ref (ad 12), .ref (ad 13), .ref (ad 14), .ref (ad 15), .ref (ad 16), .ref (ad 17), .ref (ad 18)])) := by rw [ew190]; exact fU_k (fw_ne h170 h187 ne_rl) h170
        have h192 : w190 (ad 0) = some (aZ g.2.1 6 (nA N 0)) := by rw [ew190]; exact fU_k (hinj 0 16 (by decide) (by decide) (by decide)) h171
        have h193 : w190 (ad 1) = some (aZ g.2.1 6 (nA N 1)) := by rw [ew190]; exact fU_k (hinj 1 16 (by decide) (by decide) (by decide)) h172
        have h194 : w190 (ad 2) = some (aZ g.2.1 6 (nA N 2)) := by rw [ew190]; exact fU_k (hinj 2 16 (by decide) (by decide) (by decide)) h173
        have h195 : w190 (ad 3) = some (aZ g.2.1 6 (nA N 3)) := by rw [ew190]; exact fU_k (hinj 3 16 (by decide) (by decide) (by decide)) h174
        have h196 : w190 (ad 4) = some (aZ g.2.1 6 (nA N 4)) := by rw [ew190]; exact fU_k (hinj 4 16 (by decide) (by decide) (by decide)) h175
        have h197 : w190 (ad 5) = some (aZ g.2.1 4 (nA N 5)) := by rw [ew190]; exact fU_k (hinj 5 16 (by decide) (by decide) (by decide)) h176
        have h198 : w190 (ad 6) = some (aZ g.2.1 6 (nA N 6)) := by rw [ew190]; exact fU_k (hinj 6 16 (by decide) (by decide) (by decide)) h177
        have h199 : w190 (ad 7) = some (aZ g.2.1 18 (nA N 7)) := by rw [ew190]; exact fU_k (hinj 7 16 (by decide) (by decide) (by decide)) h178
        have h200 : w190 (ad 8) = some (aZ g.2.1 18 (nA N 8)) := by rw [ew190]; exact fU_k (hinj 8 16 (by decide) (by decide) (by decide)) h179
        have h201 : w190 (ad 9) = some (aZ g.2.1 18 (nA N 9)) := by rw [ew190]; exact fU_k (hinj 9 16 (by decide) (by decide) (by decide)) h180
        have h202 : w190 (ad 10) = some (aZ g.2.1 6 (nA N 10)) := by rw [ew190]; exact fU_k (hinj 10 16 (by decide) (by decide) (by decide)) h181
        have h203 : w190 (ad 11) = some (aZ g.2.1 48 (nA N 11)) := by rw [ew190]; exact fU_k (hinj 11 16 (by decide) (by decide) (by decide)) h182
        have h204 : w190 (ad 12) = some (aZ g.2.1 6 (va_up (nA N 12) t (((nA N 12) t) + 1))) := by rw [ew190]; exact fU_k (hinj 12 16 (by decide) (by decide) (by decide)) h183
        have h205 : w190 (ad 13) = some (aZ g.2.1 6 (nA N 13)) := by rw [ew190]; exact fU_k (hinj 13 16 (by decide) (by decide) (by decide)) h184
        have h206 : w190 (ad 14) = some (aZ g.2.1 6 (nA N 14)) := by rw [ew190]; exact fU_k (hinj 14 16 (by decide) (by decide) (by decide)) h185
        have h207 : w190 (ad 15) = some (aZ g.2.1 6 (nA N 15)) := by rw [ew190]; exact fU_k (hinj 15 16 (by decide) (by decide) (by decide)) h186
        have h208 : w190 (ad 16) = some (aZ g.2.1 6 (va_up (nA N 16) t (((nTi N) + 1) - ((nA N 11) ((t * 8)))))) := by rw [ew190]; exact fU_s _ _ _
        have h209 : w190 (ad 17) = some (aZ g.2.1 6 (nA N 17)) := by rw [ew190]; exact fU_k (hinj 17 16 (by decide) (by decide) (by decide)) h188
        have h210 : w190 (ad 18) = some (aZ g.2.1 64 (nA N 18)) := by rw [ew190]; exact fU_k (hinj 18 16 (by decide) (by decide) (by decide)) h189
        exact tail (wkW N t) w190 H locs _ (by rw [wkM, if_neg (by omega)]) (by rw [wkW, if_neg c15, if_pos (by omega)]; exact ⟨h191, h192, h193, h194, h195, h196, h197, h198, h199, h200, h201, h202, h203, h204, h205, h206, h207, h208, h209, h210, hinj⟩) (fun q hq => by rw [ew190, fU_n (own_ne hq (hO.2 16 (by decide))), ew169, fU_n (own_ne hq hO.1), ew148, fU_n (own_ne hq hO.1), ew85, fU_n (own_ne hq (hO.2 12 (by decide)))]) hF ls (lv_sub hl [0, 1, 2] rfl)
    · exact rw_vret hx hb hr hlocks d_Mo_work_48 (by omega) (by omega) hF ⟨(by rw [wkM, if_pos (by omega), wkA, if_neg c15]; exact ⟨h170, h171, h172, h173, h174, h175, h176, h177, h178, h179, h180, h181, h182, h183, h184, h185, h186, h187, h188, h189, hinj⟩), fun q hq => by rw [ew169, fU_n (own_ne hq hO.1), ew148, fU_n (own_ne hq hO.1), ew85, fU_n (own_ne hq (hO.2 12 (by decide)))]⟩
