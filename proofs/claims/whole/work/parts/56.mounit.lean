set_option maxHeartbeats 4000000 in
set_option maxRecDepth 100000 in
theorem c_Mo_unit (l : Launch) (g : GG) (w : fw) (sz : Nat) (b : Nat) (ad : Nat → Nat) (N : MoM) (O : Nat → Prop) (tb : Int) (hM : MoP g w b ad N) (hI : MoI N tb) (hO : MoO O b ad) (htb : nTi N < tb) : RWi l y_Mo_unit w_Mo_unit ({ frames := 4, cells := 0, slots := 0, locals := 89 }) g w sz [.ref b] 0 0 ((fun rr1 w1 => rr1 = bZ (!usM N) ∧ MoP g w1 b ad (utM N) ∧ ∀ q, ¬ O q → w1 q = w q)) := by
  refine rw_go (by decide) rfl (Nat.le_of_ble_eq_true rfl) ?_
  intro p e s m below meth c hx hb hr hml hown hts hlocks hin hsz hK hT hA hF ls hl
  subst hsz
  have hown : s.vm.findClass rMo = some m.cls := hown
  have hl : lv_has ls 4 [(0, .ref b)] := hl
  have hI0 := hI
  have hM0 := hM
  obtain ⟨hmo, qa0, qa1, qa2, qa3, qa4, qa5, qa6, qa7, qa8, qa9, qa10, qa11, qa12, qa13, qa14, qa15, qa16, qa17, qa18, hinj⟩ := hM
  obtain ⟨itb, in6, iti, ila, ibu, ice, ion, ifr, ilo, ire, itk⟩ := hI
  have tail4 : ∀ (NB : MoM) (wB : fw) (H : Heap) (locs : List Loc), ltI NB (nTa NB) = utM N → usM N = false → MoP g wB b ad NB → MoI NB tb → (∀ q, ¬ O q → wB q = w q) → fW g (fA w s.heap.size) s H locs wB → ∀ ls : Array Slot, lv_has ls 4 [(0, .ref b)] → W p l e ({ frames := 4, cells := 0, slots := 0, locals := 89 }) s m ([.ref b] : List Value).toArray below meth c H locs 0 0 (MQ below (va_Qi ((fun rr1 w1 => rr1 = bZ (!usM N) ∧ MoP g w1 b ad (utM N) ∧ ∀ q, ¬ O q → w1 q = w q)) (rwB g w s.heap.size) (fA w s.heap.size)) ([.ref b] : List Value).toArray s 0 0 (fA w s.heap.size)) (F0 m 170 ls []) := by
    intro NB wB H locs hfin hus hMB hIB hofB hF ls hl
    obtain ⟨hmo, qa0, qa1, qa2, qa3, qa4, qa5, qa6, qa7, qa8, qa9, qa10, qa11, qa12, qa13, qa14, qa15, qa16, qa17, qa18, hinj⟩ := id hMB
    obtain ⟨itb, in6, iti, ila, ibu, ice, ion, ifr, ilo, ire, itk⟩ := id hIB
    refine lv_iconst (v := iZ 0) hx hb d_Mo_unit_170 rfl ?_
    refine lv_istore_n (lv' := [(2, .int (iZ 0)), (0, .ref b)]) hx hb d_Mo_unit_171 rfl hl (by decide) rfl (fun ls hl => ?_)
    have lp : ∀ (f i : Nat) (No : MoM) (wo : fw) (H : Heap) (locs : List Loc), i + f = nTa NB → No = ltI NB i → MoP g wo b ad No → (∀ q, ¬ O q → wo q = w q) → fW g (fA w s.heap.size) s H locs wo → ∀ ls : Array Slot, lv_has ls 4 [(2, .int (iZ (i : Int))), (0, .ref b)] → W p l e ({ frames := 4, cells := 0, slots := 0, locals := 89 }) s m ([.ref b] : List Value).toArray below meth c H locs 0 0 (MQ below (va_Qi ((fun rr1 w1 => rr1 = bZ (!usM N) ∧ MoP g w1 b ad (utM N) ∧ ∀ q, ¬ O q → w1 q = w q)) (rwB g w s.heap.size) (fA w s.heap.size)) ([.ref b] : List Value).toArray s 0 0 (fA w s.heap.size)) (F0 m 172 ls []) := by
      intro f
      induction f with
      | zero =>
        intro i No wo H locs hif eNo hMo hofo hF ls hl
        obtain ⟨hmo, qa0, qa1, qa2, qa3, qa4, qa5, qa6, qa7, qa8, qa9, qa10, qa11, qa12, qa13, qa14, qa15, qa16, qa17, qa18, hinj⟩ := id hMo
        obtain ⟨ea, et, ek⟩ := ltI_same NB i
        rw [← eNo] at ea et ek
        refine lv_iload_n hx hb d_Mo_unit_172 rfl (lv_at hl 0 rfl) ?_
        refine lv_aload_n hx hb d_Mo_unit_173 rfl (lv_at hl 1 rfl) ?_
        refine fw_get (ci := 5) (v := .int (iZ ((nTa No : Int)))) (C := rMo) (T := fMo) (N := 26) hx hb hts iMo hown hK hF.1 hmo rfl 0 (by decide) (hts _ t_508) (fun _ h9 => h9) rfl d_Mo_unit_174 ?_
        refine zz_icmp_ge (tgt := 242) hx hb d_Mo_unit_177 (by decide) ⟨by omega, by omega⟩ ⟨by omega, by omega⟩ (fun c177 => ?_) (fun c177 => ?_)
        · refine lv_iconst (v := iZ 1) hx hb d_Mo_unit_242 rfl ?_
          exact rw_zret hx hb hr (by decide) hlocks d_Mo_unit_243 (by omega) (by omega) hF ⟨(by rw [hus]; rfl), (by rw [← hfin, ← (by omega : i = nTa NB), ← eNo]; exact hMo), hofo⟩
        · exfalso; omega
      | succ f ih =>
        intro i No wo H locs hif eNo hMo hofo hF ls hl
        obtain ⟨hmo, qa0, qa1, qa2, qa3, qa4, qa5, qa6, qa7, qa8, qa9, qa10, qa11, qa12, qa13, qa14, qa15, qa16, qa17, qa18, hinj⟩ := id hMo
        obtain ⟨ea, et, ek⟩ := ltI_same NB i
        rw [← eNo] at ea et ek
        refine lv_iload_n hx hb d_Mo_unit_172 rfl (lv_at hl 0 rfl) ?_
        refine lv_aload_n hx hb d_Mo_unit_173 rfl (lv_at hl 1 rfl) ?_
        refine fw_get (ci := 5) (v := .int (iZ ((nTa No : Int)))) (C := rMo) (T := fMo) (N := 26) hx hb hts iMo hown hK hF.1 hmo rfl 0 (by decide) (hts _ t_508) (fun _ h9 => h9) rfl d_Mo_unit_174 ?_
        refine zz_icmp_ge (tgt := 242) hx hb d_Mo_unit_177 (by decide) ⟨by omega, by omega⟩ ⟨by omega, by omega⟩ (fun c177 => ?_) (fun c177 => ?_)
        · exfalso; omega
        · have hra := itk i (by omega)
          have h10 := ek 10 (by decide)
          have h11 := ek 11 (by decide)
          have h2 := ek 2 (by decide)
          rw [← h10, ← h2] at hra
          refine lv_iload_n hx hb d_Mo_unit_180 rfl (lv_at hl 0 rfl) ?_
          refine lv_bipush (v := iZ 8) hx hb d_Mo_unit_181 (by decide) ?_
          refine zz_imul hx hb d_Mo_unit_183 ?_
          refine lv_istore_n (lv' := [(3, .int (iZ (((i : Int)) * 8))), (2, .int (iZ ((i : Int)))), (0, .ref b)]) hx hb d_Mo_unit_184 rfl hl (by decide) rfl (fun ls hl => ?_)
          have lp2 : ∀ (f2 k : Nat) (x : Int) (N2 : MoM) (w2 : fw) (H : Heap) (locs : List Loc), k + f2 = i * 8 + (nA No 10 i).toNat → i * 8 ≤ k → ltK No i (nA No 10 i).toNat (i * 8) (nA No 15 i) = ltK No i f2 k x → N2 = setA No 15 (va_up (nA No 15) i x) → MoP g w2 b ad N2 → (∀ q, ¬ O q → w2 q = w q) → fW g (fA w s.heap.size) s H locs w2 → ∀ ls : Array Slot, lv_has ls 4 [(3, .int (iZ (k : Int))), (0, .ref b), (2, .int (iZ (i : Int)))] → W p l e ({ frames := 4, cells := 0, slots := 0, locals := 89 }) s m ([.ref b] : List Value).toArray below meth c H locs 0 0 (MQ below (va_Qi ((fun rr1 w1 => rr1 = bZ (!usM N) ∧ MoP g w1 b ad (utM N) ∧ ∀ q, ¬ O q → w1 q = w q)) (rwB g w s.heap.size) (fA w s.heap.size)) ([.ref b] : List Value).toArray s 0 0 (fA w s.heap.size)) (F0 m 185 ls []) := by
            intro f2
            induction f2 with
            | zero =>
              intro k x N2 w2 H locs hif2 hkk hv2 eN2 hM2 hof2 hF ls hl
              obtain ⟨hmo, qa0, qa1, qa2, qa3, qa4, qa5, qa6, qa7, qa8, qa9, qa10, qa11, qa12, qa13, qa14, qa15, qa16, qa17, qa18, hinj⟩ := id hM2
              have e10 : nA N2 10 i = nA No 10 i := by rw [eN2]; rfl
              have e11 : nA N2 11 k = nA No 11 k := by rw [eN2]; rfl
              have e02 : nA N2 2 i = nA No 2 i := by rw [eN2]; rfl
              have eti : nTi N2 = nTi No := by rw [eN2]; rfl
              have eta : nTa N2 = nTa No := by rw [eN2]; rfl
              have e15 : va_up (nA N2 15) i (nA N2 15 i + 1) = va_up (nA No 15) i (x + 1) := by rw [eN2]; show va_up (va_up (nA No 15) i x) i (va_up (nA No 15) i x i + 1) = _; rw [va_up_s, bx_uu]
              refine lv_iload_n hx hb d_Mo_unit_185 rfl (lv_at hl 0 rfl) ?_
              refine lv_iload_n hx hb d_Mo_unit_186 rfl (lv_at hl 2 rfl) ?_
              refine lv_bipush (v := iZ 8) hx hb d_Mo_unit_187 (by decide) ?_
              refine zz_imul hx hb d_Mo_unit_189 ?_
              refine lv_aload_n hx hb d_Mo_unit_190 rfl (lv_at hl 1 rfl) ?_
              refine fw_get (ci := 5) (v := .ref (ad 10)) (C := rMo) (T := fMo) (N := 26) hx hb hts iMo hown hK hF.1 hmo rfl 17 (by decide) (hts _ t_525) (fun _ h9 => h9) rfl d_Mo_unit_191 ?_
              refine lv_iload_n hx hb d_Mo_unit_194 rfl (lv_at hl 2 rfl) ?_
              refine fw_iald hx hb hK hF.1 qa10 (by decide) i rfl (by omega) d_Mo_unit_195 ?_
              refine zz_iadd hx hb d_Mo_unit_196 ?_
              refine zz_icmp_ge (tgt := 236) hx hb d_Mo_unit_197 (by decide) ⟨by omega, by omega⟩ ⟨by omega, by omega⟩ (fun c197 => ?_) (fun c197 => ?_)
              · refine lv_iinc (v := iZ (((i : Int)) + 1)) (lv' := [(2, .int (iZ (((i : Int)) + 1))), (3, .int (iZ ((k : Int)))), (0, .ref b)]) hx hb d_Mo_unit_236 hl (k := 2) rfl (iZ_add _ _) (by decide) rfl (fun ls hl => ?_)
                refine lv_goto (tgt := 172) hx hb d_Mo_unit_239 (by decide) ?_
                exact ih (i + 1) N2 w2 H locs (by omega) (by rw [ltI, ← eNo, ltS, hv2, eN2]; rfl) hM2 hof2 hF ls (lv_sub hl [0, 2] rfl)
              · exfalso; omega
            | succ f2 ih2 =>
              intro k x N2 w2 H locs hif2 hkk hv2 eN2 hM2 hof2 hF ls hl
              obtain ⟨hmo, qa0, qa1, qa2, qa3, qa4, qa5, qa6, qa7, qa8, qa9, qa10, qa11, qa12, qa13, qa14, qa15, qa16, qa17, qa18, hinj⟩ := id hM2
              have e10 : nA N2 10 i = nA No 10 i := by rw [eN2]; rfl
              have e11 : nA N2 11 k = nA No 11 k := by rw [eN2]; rfl
              have e02 : nA N2 2 i = nA No 2 i := by rw [eN2]; rfl
              have eti : nTi N2 = nTi No := by rw [eN2]; rfl
              have eta : nTa N2 = nTa No := by rw [eN2]; rfl
              have e15 : va_up (nA N2 15) i (nA N2 15 i + 1) = va_up (nA No 15) i (x + 1) := by rw [eN2]; show va_up (va_up (nA No 15) i x) i (va_up (nA No 15) i x i + 1) = _; rw [va_up_s, bx_uu]
              refine lv_iload_n hx hb d_Mo_unit_185 rfl (lv_at hl 0 rfl) ?_
              refine lv_iload_n hx hb d_Mo_unit_186 rfl (lv_at hl 2 rfl) ?_
              refine lv_bipush (v := iZ 8) hx hb d_Mo_unit_187 (by decide) ?_
              refine zz_imul hx hb d_Mo_unit_189 ?_
              refine lv_aload_n hx hb d_Mo_unit_190 rfl (lv_at hl 1 rfl) ?_
              refine fw_get (ci := 5) (v := .ref (ad 10)) (C := rMo) (T := fMo) (N := 26) hx hb hts iMo hown hK hF.1 hmo rfl 17 (by decide) (hts _ t_525) (fun _ h9 => h9) rfl d_Mo_unit_191 ?_
              refine lv_iload_n hx hb d_Mo_unit_194 rfl (lv_at hl 2 rfl) ?_
              refine fw_iald hx hb hK hF.1 qa10 (by decide) i rfl (by omega) d_Mo_unit_195 ?_
              refine zz_iadd hx hb d_Mo_unit_196 ?_
              refine zz_icmp_ge (tgt := 236) hx hb d_Mo_unit_197 (by decide) ⟨by omega, by omega⟩ ⟨by omega, by omega⟩ (fun c197 => ?_) (fun c197 => ?_)
              · exfalso; omega
              · refine lv_aload_n hx hb d_Mo_unit_200 rfl (lv_at hl 1 rfl) ?_
                refine fw_get (ci := 5) (v := .ref (ad 11)) (C := rMo) (T := fMo) (N := 26) hx hb hts iMo hown hK hF.1 hmo rfl 18 (by decide) (hts _ t_526) (fun _ h9 => h9) rfl d_Mo_unit_201 ?_
                refine lv_iload_n hx hb d_Mo_unit_204 rfl (lv_at hl 0 rfl) ?_
                refine fw_iald hx hb hK hF.1 qa11 (by decide) k rfl (by omega) d_Mo_unit_205 ?_
                refine lv_aload_n hx hb d_Mo_unit_206 rfl (lv_at hl 1 rfl) ?_
                refine fw_get (ci := 5) (v := .ref (ad 2)) (C := rMo) (T := fMo) (N := 26) hx hb hts iMo hown hK hF.1 hmo rfl 9 (by decide) (hts _ t_517) (fun _ h9 => h9) rfl d_Mo_unit_207 ?_
                refine lv_iload_n hx hb d_Mo_unit_210 rfl (lv_at hl 2 rfl) ?_
                refine fw_iald hx hb hK hF.1 qa2 (by decide) i rfl (by omega) d_Mo_unit_211 ?_
                have hre := ire k
                rw [← h11] at hre
                refine zz_iadd hx hb d_Mo_unit_212 ?_
                refine lv_aload_n hx hb d_Mo_unit_213 rfl (lv_at hl 1 rfl) ?_
                refine fw_get (ci := 5) (v := .int (iZ (nTi N2))) (C := rMo) (T := fMo) (N := 26) hx hb hts iMo hown hK hF.1 hmo rfl 1 (by decide) (hts _ t_509) (fun _ h9 => h9) rfl d_Mo_unit_214 ?_
                refine zz_icmp_ne (tgt := 230) hx hb d_Mo_unit_217 (by decide) ⟨by omega, by omega⟩ ⟨by omega, by omega⟩ (fun c217 => ?_) (fun c217 => ?_)
                · refine lv_iinc (v := iZ (((k : Int)) + 1)) (lv' := [(3, .int (iZ (((k : Int)) + 1))), (0, .ref b), (2, .int (iZ ((i : Int))))]) hx hb d_Mo_unit_230 hl (k := 0) rfl (iZ_add _ _) (by decide) rfl (fun ls hl => ?_)
                  refine lv_goto (tgt := 185) hx hb d_Mo_unit_233 (by decide) ?_
                  exact ih2 (k + 1) x N2 w2 H locs (by omega) (by omega) (by rw [hv2, ltK, if_neg (by rw [← e11, ← e02, ← eti]; exact c217)]) eN2 hM2 hof2 hF ls (lv_sub hl [0, 1, 2] rfl)
                · refine lv_aload_n hx hb d_Mo_unit_220 rfl (lv_at hl 1 rfl) ?_
                  refine fw_get (ci := 5) (v := .ref (ad 15)) (C := rMo) (T := fMo) (N := 26) hx hb hts iMo hown hK hF.1 hmo rfl 22 (by decide) (hts _ t_530) (fun _ h9 => h9) rfl d_Mo_unit_221 ?_
                  refine lv_iload_n hx hb d_Mo_unit_224 rfl (lv_at hl 2 rfl) ?_
                  refine lv_dup2_11 hx hb d_Mo_unit_225 rfl rfl ?_
                  refine fw_iald hx hb hK hF.1 qa15 (by decide) i rfl (by omega) d_Mo_unit_226 ?_
                  refine lv_iconst (v := iZ 1) hx hb d_Mo_unit_227 rfl ?_
                  refine zz_iadd hx hb d_Mo_unit_228 ?_
                  refine fw_iast (x := ((nA N2 15) i) + 1) hx hb hK hF qa15 (by decide) i rfl (by omega) d_Mo_unit_229 (fun H locs hF => ?_)
                  obtain ⟨w1, ew1⟩ : ∃ zw : fw, zw = fU w2 (ad 15) (aZ g.2.1 6 (va_up (nA N2 15) i (((nA N2 15) i) + 1))) := ⟨_, rfl⟩
                  have hF := fW_to ew1 hF
                  have h2 : w1 b = some (.inr (5, [.int (iZ ((nTa N2 : Int))), .int (iZ (nTi N2)), .int (iZ (nId N2)), .int (iZ (nSw N2)), .int (iZ (nLa N2)), .int (iZ (nBu N2)), .int (bZ (nSt N2)), .ref (ad 0), .ref (ad 1), .ref (ad 2), .ref (ad 3), .ref (ad 4), .ref (ad 5), .ref (ad 6), .ref (ad 7), .ref (ad 8), .ref (ad 9), .ref (ad 10), .ref (ad 11), .ref (ad 12), .ref (ad 13), .ref (ad 14), .ref (ad 15), .ref (ad 16), .ref (ad 17), .ref (ad 18)])) := by rw [ew1]; exact fU_k (fw_ne hmo qa15 ne_rl) hmo
                  have h3 : w1 (ad 0) = some (aZ g.2.1 6 (nA N2 0)) := by rw [ew1]; exact fU_k (hinj 0 15 (by decide) (by decide) (by decide)) qa0
                  have h4 : w1 (ad 1) = some (aZ g.2.1 6 (nA N2 1)) := by rw [ew1]; exact fU_k (hinj 1 15 (by decide) (by decide) (by decide)) qa1
                  have h5 : w1 (ad 2) = some (aZ g.2.1 6 (nA N2 2)) := by rw [ew1]; exact fU_k (hinj 2 15 (by decide) (by decide) (by decide)) qa2
                  have h6 : w1 (ad 3) = some (aZ g.2.1 6 (nA N2 3)) := by rw [ew1]; exact fU_k (hinj 3 15 (by decide) (by decide) (by decide)) qa3
                  have h7 : w1 (ad 4) = some (aZ g.2.1 6 (nA N2 4)) := by rw [ew1]; exact fU_k (hinj 4 15 (by decide) (by decide) (by decide)) qa4
                  have h8 : w1 (ad 5) = some (aZ g.2.1 4 (nA N2 5)) := by rw [ew1]; exact fU_k (hinj 5 15 (by decide) (by decide) (by decide)) qa5
                  have h9 : w1 (ad 6) = some (aZ g.2.1 6 (nA N2 6)) := by rw [ew1]; exact fU_k (hinj 6 15 (by decide) (by decide) (by decide)) qa6
                  have h10 : w1 (ad 7) = some (aZ g.2.1 18 (nA N2 7)) := by rw [ew1]; exact fU_k (hinj 7 15 (by decide) (by decide) (by decide)) qa7
                  have h11 : w1 (ad 8) = some (aZ g.2.1 18 (nA N2 8)) := by rw [ew1]; exact fU_k (hinj 8 15 (by decide) (by decide) (by decide)) qa8
                  have h12 : w1 (ad 9) = some (aZ g.2.1 18 (nA N2 9)) := by rw [ew1]; exact fU_k (hinj 9 15 (by decide) (by decide) (by decide)) qa9
                  have h13 : w1 (ad 10) = some (aZ g.2.1 6 (nA N2 10)) := by rw [ew1]; exact fU_k (hinj 10 15 (by decide) (by decide) (by decide)) qa10
                  have h14 : w1 (ad 11) = some (aZ g.2.1 48 (nA N2 11)) := by rw [ew1]; exact fU_k (hinj 11 15 (by decide) (by decide) (by decide)) qa11
                  have h15 : w1 (ad 12) = some (aZ g.2.1 6 (nA N2 12)) := by rw [ew1]; exact fU_k (hinj 12 15 (by decide) (by decide) (by decide)) qa12
                  have h16 : w1 (ad 13) = some (aZ g.2.1 6 (nA N2 13)) := by rw [ew1]; exact fU_k (hinj 13 15 (by decide) (by decide) (by decide)) qa13
                  have h17 : w1 (ad 14) = some (aZ g.2.1 6 (nA N2 14)) := by rw [ew1]; exact fU_k (hinj 14 15 (by decide) (by decide) (by decide)) qa14
                  have h18 : w1 (ad 15) = some (aZ g.2.1 6 (va_up (nA N2 15) i (((nA N2 15) i) + 1))) := by rw [ew1]; exact fU_s _ _ _
                  have h19 : w1 (ad 16) = some (aZ g.2.1 6 (nA N2 16)) := by rw [ew1]; exact fU_k (hinj 16 15 (by decide) (by decide) (by decide)) qa16
                  have h20 : w1 (ad 17) = some (aZ g.2.1 6 (nA N2 17)) := by rw [ew1]; exact fU_k (hinj 17 15 (by decide) (by decide) (by decide)) qa17
                  have h21 : w1 (ad 18) = some (aZ g.2.1 64 (nA N2 18)) := by rw [ew1]; exact fU_k (hinj 18 15 (by decide) (by decide) (by decide)) qa18
                  refine lv_iinc (v := iZ (((k : Int)) + 1)) (lv' := [(3, .int (iZ (((k : Int)) + 1))), (0, .ref b), (2, .int (iZ ((i : Int))))]) hx hb d_Mo_unit_230 hl (k := 0) rfl (iZ_add _ _) (by decide) rfl (fun ls hl => ?_)
                  refine lv_goto (tgt := 185) hx hb d_Mo_unit_233 (by decide) ?_
                  rw [e15] at h18
                  exact ih2 (k + 1) (x + 1) (setA No 15 (va_up (nA No 15) i (x + 1))) w1 H locs (by omega) (by omega) (by rw [hv2, ltK, if_pos (by rw [← e11, ← e02, ← eti]; exact c217)]) rfl (by subst eN2; exact ⟨h2, h3, h4, h5, h6, h7, h8, h9, h10, h11, h12, h13, h14, h15, h16, h17, h18, h19, h20, h21, hinj⟩) (fun q hq => (show w1 q = w2 q from by rw [ew1, fU_n (own_ne hq (hO.2 15 (by decide)))]).trans (hof2 q hq)) hF ls (lv_sub hl [0, 1, 2] rfl)
          exact lp2 (nA No 10 i).toNat (i * 8) (nA No 15 i) (setA No 15 (va_up (nA No 15) i (nA No 15 i))) wo H locs (by omega) (by omega) rfl rfl (by rw [va_up_id]; exact hMo) hofo hF ls (lv_sub hl [0, 2, 1] rfl)
    exact lp (nTa NB) 0 NB wB H locs (by omega) rfl hMB hofB hF ls (lv_sub hl [0, 1] rfl)
  have tail3 : ∀ (P : MoM) (wP : fw) (H : Heap) (locs : List Loc), uvR P = utM N → usM N = false → nTi P < tb → MoP g wP b ad P → MoI P tb → (∀ q, ¬ O q → wP q = w q) → fW g (fA w s.heap.size) s H locs wP → ∀ ls : Array Slot, lv_has ls 4 [(0, .ref b)] → W p l e ({ frames := 4, cells := 0, slots := 0, locals := 89 }) s m ([.ref b] : List Value).toArray below meth c H locs 0 0 (MQ below (va_Qi ((fun rr1 w1 => rr1 = bZ (!usM N) ∧ MoP g w1 b ad (utM N) ∧ ∀ q, ¬ O q → w1 q = w q)) (rwB g w s.heap.size) (fA w s.heap.size)) ([.ref b] : List Value).toArray s 0 0 (fA w s.heap.size)) (F0 m 66 ls []) := by
    intro P wP H locs hfin hus hlt hMP hIP hofP hF ls hl
    obtain ⟨hmo, qa0, qa1, qa2, qa3, qa4, qa5, qa6, qa7, qa8, qa9, qa10, qa11, qa12, qa13, qa14, qa15, qa16, qa17, qa18, hinj⟩ := id hMP
    obtain ⟨itb, in6, iti, ila, ibu, ice, ion, ifr, ilo, ire, itk⟩ := id hIP
    refine lv_iconst (v := iZ (-1)) hx hb d_Mo_unit_66 rfl ?_
    refine lv_istore_n (lv' := [(1, .int (iZ (-1))), (0, .ref b)]) hx hb d_Mo_unit_67 rfl hl (by decide) rfl (fun ls hl => ?_)
    refine lv_iconst (v := iZ 0) hx hb d_Mo_unit_68 rfl ?_
    refine lv_istore_n (lv' := [(2, .int (iZ 0)), (1, .int (iZ (-1))), (0, .ref b)]) hx hb d_Mo_unit_69 rfl hl (by decide) rfl (fun ls hl => ?_)
    have lp : ∀ (f i : Nat) (r : Int), i + f = nTa P → (ruM P = ruF P f i r) → (r = -1 ∨ ∃ u : Nat, u < nTa P ∧ r = (u : Int) ∧ 0 < nA P 10 u) → ∀ ls : Array Slot, lv_has ls 4 [(2, .int (iZ ((i : Int)))), (1, .int (iZ r)), (0, .ref b)] → W p l e ({ frames := 4, cells := 0, slots := 0, locals := 89 }) s m ([.ref b] : List Value).toArray below meth c H locs 0 0 (MQ below (va_Qi ((fun rr1 w1 => rr1 = bZ (!usM N) ∧ MoP g w1 b ad (utM N) ∧ ∀ q, ¬ O q → w1 q = w q)) (rwB g w s.heap.size) (fA w s.heap.size)) ([.ref b] : List Value).toArray s 0 0 (fA w s.heap.size)) (F0 m 70 ls []) := by
      intro f
      induction f with
      | zero =>
        intro i r hif hv hk ls hl
        refine lv_iload_n hx hb d_Mo_unit_70 rfl (lv_at hl 0 rfl) ?_
        refine lv_aload_n hx hb d_Mo_unit_71 rfl (lv_at hl 2 rfl) ?_
        refine fw_get (ci := 5) (v := .int (iZ ((nTa P : Int)))) (C := rMo) (T := fMo) (N := 26) hx hb hts iMo hown hK hF.1 hmo rfl 0 (by decide) (hts _ t_508) (fun _ h9 => h9) rfl d_Mo_unit_72 ?_
        refine zz_icmp_ge (tgt := 108) hx hb d_Mo_unit_75 (by decide) ⟨by omega, by omega⟩ ⟨by omega, by omega⟩ (fun c75 => ?_) (fun c75 => ?_)
        · have hr : ruM P = r := by rw [hv]; rfl
          have hrr : -1 ≤ r ∧ r ≤ 6 := by rcases hk with z | ⟨u, z1, z2, z3⟩ <;> omega
          refine lv_iload_n hx hb d_Mo_unit_108 rfl (lv_at hl 1 rfl) ?_
          refine zz_if_lt (tgt := 120) hx hb d_Mo_unit_109 (by decide) ⟨by omega, by omega⟩ (fun c109 => ?_) (fun c109 => ?_)
          · refine lv_aload_n hx hb d_Mo_unit_120 rfl (lv_at hl 2 rfl) ?_
            refine lv_dup hx hb d_Mo_unit_121 rfl ?_
            refine fw_get (ci := 5) (v := .int (iZ (nId P))) (C := rMo) (T := fMo) (N := 26) hx hb hts iMo hown hK hF.1 hmo rfl 2 (by decide) (hts _ t_510) (fun _ h9 => h9) rfl d_Mo_unit_122 ?_
            refine lv_iconst (v := iZ 1) hx hb d_Mo_unit_125 rfl ?_
            refine zz_iadd hx hb d_Mo_unit_126 ?_
            refine fw_put (ci := 5) (v := .int (iZ ((nId P) + 1))) (ty := .int) (C := rMo) (T := fMo) (N := 26) hx hb hts iMo yMo_t yMo_ok yMo_nm hown hK hF hmo rfl 2 (by decide) (hts _ t_510) (fun _ h9 => h9) rfl (by decide +kernel) rfl rfl (Nat.le_of_ble_eq_true rfl) d_Mo_unit_127 (fun H locs hF => ?_)
            obtain ⟨w22, ew22⟩ : ∃ zw : fw, zw = fU wP b (.inr (5, [.int (iZ ((nTa P : Int))), .int (iZ (nTi P)), .int (iZ ((nId P) + 1)), .int (iZ (nSw P)), .int (iZ (nLa P)), .int (iZ (nBu P)), .int (bZ (nSt P)), .ref (ad 0), .ref (ad 1), .ref (ad 2), .ref (ad 3), .ref (ad 4), .ref (ad 5), .ref (ad 6), .ref (ad 7), .ref (ad 8), .ref (ad 9), .ref (ad 10), .ref (ad 11), .ref (ad 12), .ref (ad 13), .ref (ad 14), .ref (ad 15), .ref (ad 16), .ref (ad 17), .ref (ad 18)])) := ⟨_, rfl⟩
            have hF := fW_to ew22 hF
            have h23 : w22 b = some (.inr (5, [.int (iZ ((nTa P : Int))), .int (iZ (nTi P)), .int (iZ ((nId P) + 1)), .int (iZ (nSw P)), .int (iZ (nLa P)), .int (iZ (nBu P)), .int (bZ (nSt P)), .ref (ad 0), .ref (ad 1), .ref (ad 2), .ref (ad 3), .ref (ad 4), .ref (ad 5), .ref (ad 6), .ref (ad 7), .ref (ad 8), .ref (ad 9), .ref (ad 10), .ref (ad 11), .ref (ad 12), .ref (ad 13), .ref (ad 14), .ref (ad 15), .ref (ad 16), .ref (ad 17), .ref (ad 18)])) := by rw [ew22]; exact fU_s _ _ _
            have h24 : w22 (ad 0) = some (aZ g.2.1 6 (nA P 0)) := by rw [ew22]; exact fU_k (fw_ne qa0 hmo ne_lr) qa0
            have h25 : w22 (ad 1) = some (aZ g.2.1 6 (nA P 1)) := by rw [ew22]; exact fU_k (fw_ne qa1 hmo ne_lr) qa1
            have h26 : w22 (ad 2) = some (aZ g.2.1 6 (nA P 2)) := by rw [ew22]; exact fU_k (fw_ne qa2 hmo ne_lr) qa2
            have h27 : w22 (ad 3) = some (aZ g.2.1 6 (nA P 3)) := by rw [ew22]; exact fU_k (fw_ne qa3 hmo ne_lr) qa3
            have h28 : w22 (ad 4) = some (aZ g.2.1 6 (nA P 4)) := by rw [ew22]; exact fU_k (fw_ne qa4 hmo ne_lr) qa4
            have h29 : w22 (ad 5) = some (aZ g.2.1 4 (nA P 5)) := by rw [ew22]; exact fU_k (fw_ne qa5 hmo ne_lr) qa5
            have h30 : w22 (ad 6) = some (aZ g.2.1 6 (nA P 6)) := by rw [ew22]; exact fU_k (fw_ne qa6 hmo ne_lr) qa6
            have h31 : w22 (ad 7) = some (aZ g.2.1 18 (nA P 7)) := by rw [ew22]; exact fU_k (fw_ne qa7 hmo ne_lr) qa7
            have h32 : w22 (ad 8) = some (aZ g.2.1 18 (nA P 8)) := by rw [ew22]; exact fU_k (fw_ne qa8 hmo ne_lr) qa8
            have h33 : w22 (ad 9) = some (aZ g.2.1 18 (nA P 9)) := by rw [ew22]; exact fU_k (fw_ne qa9 hmo ne_lr) qa9
            have h34 : w22 (ad 10) = some (aZ g.2.1 6 (nA P 10)) := by rw [ew22]; exact fU_k (fw_ne qa10 hmo ne_lr) qa10
            have h35 : w22 (ad 11) = some (aZ g.2.1 48 (nA P 11)) := by rw [ew22]; exact fU_k (fw_ne qa11 hmo ne_lr) qa11
            have h36 : w22 (ad 12) = some (aZ g.2.1 6 (nA P 12)) := by rw [ew22]; exact fU_k (fw_ne qa12 hmo ne_lr) qa12
            have h37 : w22 (ad 13) = some (aZ g.2.1 6 (nA P 13)) := by rw [ew22]; exact fU_k (fw_ne qa13 hmo ne_lr) qa13
            have h38 : w22 (ad 14) = some (aZ g.2.1 6 (nA P 14)) := by rw [ew22]; exact fU_k (fw_ne qa14 hmo ne_lr) qa14
            have h39 : w22 (ad 15) = some (aZ g.2.1 6 (nA P 15)) := by rw [ew22]; exact fU_k (fw_ne qa15 hmo ne_lr) qa15
            have h40 : w22 (ad 16) = some (aZ g.2.1 6 (nA P 16)) := by rw [ew22]; exact fU_k (fw_ne qa16 hmo ne_lr) qa16
            have h41 : w22 (ad 17) = some (aZ g.2.1 6 (nA P 17)) := by rw [ew22]; exact fU_k (fw_ne qa17 hmo ne_lr) qa17
            have h42 : w22 (ad 18) = some (aZ g.2.1 64 (nA P 18)) := by rw [ew22]; exact fU_k (fw_ne qa18 hmo ne_lr) qa18
            have hq : uvA P r = ((nTa P, nTi P, nId P + 1, nSw P, nLa P, nBu P, nSt P, nA P) : MoM) := by rw [uvA, if_pos c109]
            have hMA : MoP g w22 b ad (uvA P r) := by rw [hq]; exact ⟨h23, h24, h25, h26, h27, h28, h29, h30, h31, h32, h33, h34, h35, h36, h37, h38, h39, h40, h41, h42, hinj⟩
            have hIA := MoI_uvA hIP hlt hk
            have ewk := uvA_same P r
            have hofW : ∀ q, ¬ O q → w22 q = w q := fun q hq => (show w22 q = wP q from by rw [ew22, fU_n (own_ne hq hO.1)]).trans (hofP q hq)
            generalize eQ : uvA P r = QA at hMA hIA ewk
            obtain ⟨hmo, qa0, qa1, qa2, qa3, qa4, qa5, qa6, qa7, qa8, qa9, qa10, qa11, qa12, qa13, qa14, qa15, qa16, qa17, qa18, hinj⟩ := id hMA
            obtain ⟨itb, in6, iti, ila, ibu, ice, ion, ifr, ilo, ire, itk⟩ := id hIA
            refine lv_aload_n hx hb d_Mo_unit_130 rfl (lv_at hl 2 rfl) ?_
            refine lv_iload_n hx hb d_Mo_unit_131 rfl (lv_at hl 1 rfl) ?_
            refine zz_if_ge (tgt := 140) hx hb d_Mo_unit_132 (by decide) ⟨by omega, by omega⟩ (fun c132 => ?_) (fun c132 => ?_)
            · exfalso; omega
            · refine lv_bipush (v := iZ (-3)) hx hb d_Mo_unit_135 (by decide) ?_
              refine lv_goto (tgt := 141) hx hb d_Mo_unit_137 (by decide) ?_
              refine fw_put (ci := 5) (v := .int (iZ (-3))) (ty := .int) (C := rMo) (T := fMo) (N := 26) hx hb hts iMo yMo_t yMo_ok yMo_nm hown hK hF hmo rfl 4 (by decide) (hts _ t_512) (fun _ h9 => h9) rfl (by decide +kernel) rfl rfl (Nat.le_of_ble_eq_true rfl) d_Mo_unit_141 (fun H locs hF => ?_)
              obtain ⟨w43, ew43⟩ : ∃ zw : fw, zw = fU w22 b (.inr (5, [.int (iZ ((nTa QA : Int))), .int (iZ (nTi QA)), .int (iZ (nId QA)), .int (iZ (nSw QA)), .int (iZ (-3)), .int (iZ (nBu QA)), .int (bZ (nSt QA)), .ref (ad 0), .ref (ad 1), .ref (ad 2), .ref (ad 3), .ref (ad 4), .ref (ad 5), .ref (ad 6), .ref (ad 7), .ref (ad 8), .ref (ad 9), .ref (ad 10), .ref (ad 11), .ref (ad 12), .ref (ad 13), .ref (ad 14), .ref (ad 15), .ref (ad 16), .ref (ad 17), .ref (ad 18)])) := ⟨_, rfl⟩
              have hF := fW_to ew43 hF
              have h44 : w43 b = some (.inr (5, [.int (iZ ((nTa QA : Int))), .int (iZ (nTi QA)), .int (iZ (nId QA)), .int (iZ (nSw QA)), .int (iZ (-3)), .int (iZ (nBu QA)), .int (bZ (nSt QA)), .ref (ad 0), .ref (ad 1), .ref (ad 2), .ref (ad 3), .ref (ad 4), .ref (ad 5), .ref (ad 6), .ref (ad 7), .ref (ad 8), .ref (ad 9), .ref (ad 10), .ref (ad 11), .ref (ad 12), .ref (ad 13), .ref (ad 14), .ref (ad 15), .ref (ad 16), .ref (ad 17), .ref (ad 18)])) := by rw [ew43]; exact fU_s _ _ _
              have h45 : w43 (ad 0) = some (aZ g.2.1 6 (nA QA 0)) := by rw [ew43]; exact fU_k (fw_ne qa0 hmo ne_lr) qa0
              have h46 : w43 (ad 1) = some (aZ g.2.1 6 (nA QA 1)) := by rw [ew43]; exact fU_k (fw_ne qa1 hmo ne_lr) qa1
              have h47 : w43 (ad 2) = some (aZ g.2.1 6 (nA QA 2)) := by rw [ew43]; exact fU_k (fw_ne qa2 hmo ne_lr) qa2
              have h48 : w43 (ad 3) = some (aZ g.2.1 6 (nA QA 3)) := by rw [ew43]; exact fU_k (fw_ne qa3 hmo ne_lr) qa3
              have h49 : w43 (ad 4) = some (aZ g.2.1 6 (nA QA 4)) := by rw [ew43]; exact fU_k (fw_ne qa4 hmo ne_lr) qa4
              have h50 : w43 (ad 5) = some (aZ g.2.1 4 (nA QA 5)) := by rw [ew43]; exact fU_k (fw_ne qa5 hmo ne_lr) qa5
              have h51 : w43 (ad 6) = some (aZ g.2.1 6 (nA QA 6)) := by rw [ew43]; exact fU_k (fw_ne qa6 hmo ne_lr) qa6
              have h52 : w43 (ad 7) = some (aZ g.2.1 18 (nA QA 7)) := by rw [ew43]; exact fU_k (fw_ne qa7 hmo ne_lr) qa7
              have h53 : w43 (ad 8) = some (aZ g.2.1 18 (nA QA 8)) := by rw [ew43]; exact fU_k (fw_ne qa8 hmo ne_lr) qa8
              have h54 : w43 (ad 9) = some (aZ g.2.1 18 (nA QA 9)) := by rw [ew43]; exact fU_k (fw_ne qa9 hmo ne_lr) qa9
              have h55 : w43 (ad 10) = some (aZ g.2.1 6 (nA QA 10)) := by rw [ew43]; exact fU_k (fw_ne qa10 hmo ne_lr) qa10
              have h56 : w43 (ad 11) = some (aZ g.2.1 48 (nA QA 11)) := by rw [ew43]; exact fU_k (fw_ne qa11 hmo ne_lr) qa11
              have h57 : w43 (ad 12) = some (aZ g.2.1 6 (nA QA 12)) := by rw [ew43]; exact fU_k (fw_ne qa12 hmo ne_lr) qa12
              have h58 : w43 (ad 13) = some (aZ g.2.1 6 (nA QA 13)) := by rw [ew43]; exact fU_k (fw_ne qa13 hmo ne_lr) qa13
              have h59 : w43 (ad 14) = some (aZ g.2.1 6 (nA QA 14)) := by rw [ew43]; exact fU_k (fw_ne qa14 hmo ne_lr) qa14
              have h60 : w43 (ad 15) = some (aZ g.2.1 6 (nA QA 15)) := by rw [ew43]; exact fU_k (fw_ne qa15 hmo ne_lr) qa15
              have h61 : w43 (ad 16) = some (aZ g.2.1 6 (nA QA 16)) := by rw [ew43]; exact fU_k (fw_ne qa16 hmo ne_lr) qa16
              have h62 : w43 (ad 17) = some (aZ g.2.1 6 (nA QA 17)) := by rw [ew43]; exact fU_k (fw_ne qa17 hmo ne_lr) qa17
              have h63 : w43 (ad 18) = some (aZ g.2.1 64 (nA QA 18)) := by rw [ew43]; exact fU_k (fw_ne qa18 hmo ne_lr) qa18
              refine lv_aload_n hx hb d_Mo_unit_144 rfl (lv_at hl 2 rfl) ?_
              refine fw_get (ci := 5) (v := .ref (ad 18)) (C := rMo) (T := fMo) (N := 26) hx hb hts iMo hown hK hF.1 h44 rfl 25 (by decide) (hts _ t_533) (fun _ h9 => h9) rfl d_Mo_unit_145 ?_
              refine lv_aload_n hx hb d_Mo_unit_148 rfl (lv_at hl 2 rfl) ?_
              refine fw_get (ci := 5) (v := .int (iZ (nTi QA))) (C := rMo) (T := fMo) (N := 26) hx hb hts iMo hown hK hF.1 h44 rfl 1 (by decide) (hts _ t_509) (fun _ h9 => h9) rfl d_Mo_unit_149 ?_
              refine lv_bipush (v := iZ 64) hx hb d_Mo_unit_152 (by decide) ?_
              refine zz_irem hx hb d_Mo_unit_154 (by omega) (by omega) (by omega) (by omega) ?_
              refine lv_aload_n hx hb d_Mo_unit_155 rfl (lv_at hl 2 rfl) ?_
              refine fw_get (ci := 5) (v := .int (iZ (-3))) (C := rMo) (T := fMo) (N := 26) hx hb hts iMo hown hK hF.1 h44 rfl 4 (by decide) (hts _ t_512) (fun _ h9 => h9) rfl d_Mo_unit_156 ?_
              refine fw_iast (x := -3) hx hb hK hF h63 (by decide) (((nTi QA % 64).toNat)) (by omega) (by omega) d_Mo_unit_159 (fun H locs hF => ?_)
              obtain ⟨w64, ew64⟩ : ∃ zw : fw, zw = fU w43 (ad 18) (aZ g.2.1 64 (va_up (nA QA 18) (((nTi QA % 64).toNat)) (-3))) := ⟨_, rfl⟩
              have hF := fW_to ew64 hF
              have h65 : w64 b = some (.inr (5, [.int (iZ ((nTa QA : Int))), .int (iZ (nTi QA)), .int (iZ (nId QA)), .int (iZ (nSw QA)), .int (iZ (-3)), .int (iZ (nBu QA)), .int (bZ (nSt QA)), .ref (ad 0), .ref (ad 1), .ref (ad 2), .ref (ad 3), .ref (ad 4), .ref (ad 5), .ref (ad 6), .ref (ad 7), .ref (ad 8), .ref (ad 9), .ref (ad 10), .ref (ad 11), .ref (ad 12), .ref (ad 13), .ref (ad 14), .ref (ad 15), .ref (ad 16), .ref (ad 17), .ref (ad 18)])) := by rw [ew64]; exact fU_k (fw_ne h44 h63 ne_rl) h44
              have h66 : w64 (ad 0) = some (aZ g.2.1 6 (nA QA 0)) := by rw [ew64]; exact fU_k (hinj 0 18 (by decide) (by decide) (by decide)) h45
              have h67 : w64 (ad 1) = some (aZ g.2.1 6 (nA QA 1)) := by rw [ew64]; exact fU_k (hinj 1 18 (by decide) (by decide) (by decide)) h46
              have h68 : w64 (ad 2) = some (aZ g.2.1 6 (nA QA 2)) := by rw [ew64]; exact fU_k (hinj 2 18 (by decide) (by decide) (by decide)) h47
              have h69 : w64 (ad 3) = some (aZ g.2.1 6 (nA QA 3)) := by rw [ew64]; exact fU_k (hinj 3 18 (by decide) (by decide) (by decide)) h48
              have h70 : w64 (ad 4) = some (aZ g.2.1 6 (nA QA 4)) := by rw [ew64]; exact fU_k (hinj 4 18 (by decide) (by decide) (by decide)) h49
              have h71 : w64 (ad 5) = some (aZ g.2.1 4 (nA QA 5)) := by rw [ew64]; exact fU_k (hinj 5 18 (by decide) (by decide) (by decide)) h50
              have h72 : w64 (ad 6) = some (aZ g.2.1 6 (nA QA 6)) := by rw [ew64]; exact fU_k (hinj 6 18 (by decide) (by decide) (by decide)) h51
              have h73 : w64 (ad 7) = some (aZ g.2.1 18 (nA QA 7)) := by rw [ew64]; exact fU_k (hinj 7 18 (by decide) (by decide) (by decide)) h52
              have h74 : w64 (ad 8) = some (aZ g.2.1 18 (nA QA 8)) := by rw [ew64]; exact fU_k (hinj 8 18 (by decide) (by decide) (by decide)) h53
              have h75 : w64 (ad 9) = some (aZ g.2.1 18 (nA QA 9)) := by rw [ew64]; exact fU_k (hinj 9 18 (by decide) (by decide) (by decide)) h54
              have h76 : w64 (ad 10) = some (aZ g.2.1 6 (nA QA 10)) := by rw [ew64]; exact fU_k (hinj 10 18 (by decide) (by decide) (by decide)) h55
              have h77 : w64 (ad 11) = some (aZ g.2.1 48 (nA QA 11)) := by rw [ew64]; exact fU_k (hinj 11 18 (by decide) (by decide) (by decide)) h56
              have h78 : w64 (ad 12) = some (aZ g.2.1 6 (nA QA 12)) := by rw [ew64]; exact fU_k (hinj 12 18 (by decide) (by decide) (by decide)) h57
              have h79 : w64 (ad 13) = some (aZ g.2.1 6 (nA QA 13)) := by rw [ew64]; exact fU_k (hinj 13 18 (by decide) (by decide) (by decide)) h58
              have h80 : w64 (ad 14) = some (aZ g.2.1 6 (nA QA 14)) := by rw [ew64]; exact fU_k (hinj 14 18 (by decide) (by decide) (by decide)) h59
              have h81 : w64 (ad 15) = some (aZ g.2.1 6 (nA QA 15)) := by rw [ew64]; exact fU_k (hinj 15 18 (by decide) (by decide) (by decide)) h60
              have h82 : w64 (ad 16) = some (aZ g.2.1 6 (nA QA 16)) := by rw [ew64]; exact fU_k (hinj 16 18 (by decide) (by decide) (by decide)) h61
              have h83 : w64 (ad 17) = some (aZ g.2.1 6 (nA QA 17)) := by rw [ew64]; exact fU_k (hinj 17 18 (by decide) (by decide) (by decide)) h62
              have h84 : w64 (ad 18) = some (aZ g.2.1 64 (va_up (nA QA 18) (((nTi QA % 64).toNat)) (-3))) := by rw [ew64]; exact fU_s _ _ _
              refine lv_aload_n hx hb d_Mo_unit_160 rfl (lv_at hl 2 rfl) ?_
              refine lv_dup hx hb d_Mo_unit_161 rfl ?_
              refine fw_get (ci := 5) (v := .int (iZ (nTi QA))) (C := rMo) (T := fMo) (N := 26) hx hb hts iMo hown hK hF.1 h65 rfl 1 (by decide) (hts _ t_509) (fun _ h9 => h9) rfl d_Mo_unit_162 ?_
              refine lv_iconst (v := iZ 1) hx hb d_Mo_unit_165 rfl ?_
              refine zz_iadd hx hb d_Mo_unit_166 ?_
              refine fw_put (ci := 5) (v := .int (iZ ((nTi QA) + 1))) (ty := .int) (C := rMo) (T := fMo) (N := 26) hx hb hts iMo yMo_t yMo_ok yMo_nm hown hK hF h65 rfl 1 (by decide) (hts _ t_509) (fun _ h9 => h9) rfl (by decide +kernel) rfl rfl (Nat.le_of_ble_eq_true rfl) d_Mo_unit_167 (fun H locs hF => ?_)
              obtain ⟨w85, ew85⟩ : ∃ zw : fw, zw = fU w64 b (.inr (5, [.int (iZ ((nTa QA : Int))), .int (iZ ((nTi QA) + 1)), .int (iZ (nId QA)), .int (iZ (nSw QA)), .int (iZ (-3)), .int (iZ (nBu QA)), .int (bZ (nSt QA)), .ref (ad 0), .ref (ad 1), .ref (ad 2), .ref (ad 3), .ref (ad 4), .ref (ad 5), .ref (ad 6), .ref (ad 7), .ref (ad 8), .ref (ad 9), .ref (ad 10), .ref (ad 11), .ref (ad 12), .ref (ad 13), .ref (ad 14), .ref (ad 15), .ref (ad 16), .ref (ad 17), .ref (ad 18)])) := ⟨_, rfl⟩
              have hF := fW_to ew85 hF
              have h86 : w85 b = some (.inr (5, [.int (iZ ((nTa QA : Int))), .int (iZ ((nTi QA) + 1)), .int (iZ (nId QA)), .int (iZ (nSw QA)), .int (iZ (-3)), .int (iZ (nBu QA)), .int (bZ (nSt QA)), .ref (ad 0), .ref (ad 1), .ref (ad 2), .ref (ad 3), .ref (ad 4), .ref (ad 5), .ref (ad 6), .ref (ad 7), .ref (ad 8), .ref (ad 9), .ref (ad 10), .ref (ad 11), .ref (ad 12), .ref (ad 13), .ref (ad 14), .ref (ad 15), .ref (ad 16), .ref (ad 17), .ref (ad 18)])) := by rw [ew85]; exact fU_s _ _ _
              have h87 : w85 (ad 0) = some (aZ g.2.1 6 (nA QA 0)) := by rw [ew85]; exact fU_k (fw_ne h66 h65 ne_lr) h66
              have h88 : w85 (ad 1) = some (aZ g.2.1 6 (nA QA 1)) := by rw [ew85]; exact fU_k (fw_ne h67 h65 ne_lr) h67
              have h89 : w85 (ad 2) = some (aZ g.2.1 6 (nA QA 2)) := by rw [ew85]; exact fU_k (fw_ne h68 h65 ne_lr) h68
              have h90 : w85 (ad 3) = some (aZ g.2.1 6 (nA QA 3)) := by rw [ew85]; exact fU_k (fw_ne h69 h65 ne_lr) h69
              have h91 : w85 (ad 4) = some (aZ g.2.1 6 (nA QA 4)) := by rw [ew85]; exact fU_k (fw_ne h70 h65 ne_lr) h70
              have h92 : w85 (ad 5) = some (aZ g.2.1 4 (nA QA 5)) := by rw [ew85]; exact fU_k (fw_ne h71 h65 ne_lr) h71
              have h93 : w85 (ad 6) = some (aZ g.2.1 6 (nA QA 6)) := by rw [ew85]; exact fU_k (fw_ne h72 h65 ne_lr) h72
              have h94 : w85 (ad 7) = some (aZ g.2.1 18 (nA QA 7)) := by rw [ew85]; exact fU_k (fw_ne h73 h65 ne_lr) h73
              have h95 : w85 (ad 8) = some (aZ g.2.1 18 (nA QA 8)) := by rw [ew85]; exact fU_k (fw_ne h74 h65 ne_lr) h74
              have h96 : w85 (ad 9) = some (aZ g.2.1 18 (nA QA 9)) := by rw [ew85]; exact fU_k (fw_ne h75 h65 ne_lr) h75
              have h97 : w85 (ad 10) = some (aZ g.2.1 6 (nA QA 10)) := by rw [ew85]; exact fU_k (fw_ne h76 h65 ne_lr) h76
              have h98 : w85 (ad 11) = some (aZ g.2.1 48 (nA QA 11)) := by rw [ew85]; exact fU_k (fw_ne h77 h65 ne_lr) h77
              have h99 : w85 (ad 12) = some (aZ g.2.1 6 (nA QA 12)) := by rw [ew85]; exact fU_k (fw_ne h78 h65 ne_lr) h78
              have h100 : w85 (ad 13) = some (aZ g.2.1 6 (nA QA 13)) := by rw [ew85]; exact fU_k (fw_ne h79 h65 ne_lr) h79
              have h101 : w85 (ad 14) = some (aZ g.2.1 6 (nA QA 14)) := by rw [ew85]; exact fU_k (fw_ne h80 h65 ne_lr) h80
              have h102 : w85 (ad 15) = some (aZ g.2.1 6 (nA QA 15)) := by rw [ew85]; exact fU_k (fw_ne h81 h65 ne_lr) h81
              have h103 : w85 (ad 16) = some (aZ g.2.1 6 (nA QA 16)) := by rw [ew85]; exact fU_k (fw_ne h82 h65 ne_lr) h82
              have h104 : w85 (ad 17) = some (aZ g.2.1 6 (nA QA 17)) := by rw [ew85]; exact fU_k (fw_ne h83 h65 ne_lr) h83
              have h105 : w85 (ad 18) = some (aZ g.2.1 64 (va_up (nA QA 18) (((nTi QA % 64).toNat)) (-3))) := by rw [ew85]; exact fU_k (fw_ne h84 h65 ne_lr) h84
              have hofX : ∀ q, ¬ O q → w85 q = w q := fun q hq => (show w85 q = w22 q from by rw [ew85, fU_n (own_ne hq hO.1), ew64, fU_n (own_ne hq (hO.2 18 (by decide))), ew43, fU_n (own_ne hq hO.1)]).trans (hofW q hq)
              exact tail4 (uvB QA r) w85 H locs (by rw [← hfin, uvR, hr, eQ]; exact congrArg (ltI _) ewk.1) hus (by rw [uvB, if_pos c109]; exact ⟨h86, h87, h88, h89, h90, h91, h92, h93, h94, h95, h96, h97, h98, h99, h100, h101, h102, h103, h104, h105, hinj⟩) (MoI_uvB hIA (by omega) (by omega)) hofX hF ls (lv_sub hl [2] rfl)
          · obtain ⟨u, hun, eu, hud⟩ := hk.resolve_left (by omega)
            subst eu
            refine lv_aload_n hx hb d_Mo_unit_112 rfl (lv_at hl 2 rfl) ?_
            refine lv_iload_n hx hb d_Mo_unit_113 rfl (lv_at hl 1 rfl) ?_
            refine fw_callv (va_runV (As := [.int (iZ ((u : Int)))]) (rest := []) ⟨hx, hb, hml, hown, hts⟩ (c_Mo_work l g wP H.size b ad P O tb u hMP hIP hO hun hud hlt) (cwV 1 hts (gdV k_Mo_work t_647 t_649 t_43 t_50) rfl rfl rfl (by decide +kernel) ⟨Nat.le_of_ble_eq_true rfl, Nat.le_of_ble_eq_true rfl⟩) ⟨rwP_blind, fw_recv hK hF.1 hmo rfl, rwP_pre hK hT hA hF⟩ rfl rfl hl.1 rfl (lv_room (Nat.le_of_ble_eq_true rfl)) d_Mo_unit_114 ⟨by decide, by decide⟩) hF hA (fun w106 H locs hp107 hz hF => ?_)
            obtain ⟨k1, k2⟩ := hp107
            have hIW := MoI_wk hIP hun hud hlt
            have ewk := wkM_same P u
            have hq : uvA P (u : Int) = wkM P u := by rw [uvA, if_neg (by omega)]; rfl
            rw [← hq] at k1 hIW ewk
            have hofW : ∀ q, ¬ O q → w106 q = w q := fun q hq => (k2 q hq).trans (hofP q hq)
            generalize eQ : uvA P (u : Int) = QA at k1 hIW ewk
            obtain ⟨hmo, qa0, qa1, qa2, qa3, qa4, qa5, qa6, qa7, qa8, qa9, qa10, qa11, qa12, qa13, qa14, qa15, qa16, qa17, qa18, hinj⟩ := id k1
            obtain ⟨itb, in6, iti, ila, ibu, ice, ion, ifr, ilo, ire, itk⟩ := id hIW
            refine lv_goto (tgt := 130) hx hb d_Mo_unit_117 (by decide) ?_
            refine lv_aload_n hx hb d_Mo_unit_130 rfl (lv_at hl 2 rfl) ?_
            refine lv_iload_n hx hb d_Mo_unit_131 rfl (lv_at hl 1 rfl) ?_
            refine zz_if_ge (tgt := 140) hx hb d_Mo_unit_132 (by decide) ⟨by omega, by omega⟩ (fun c132 => ?_) (fun c132 => ?_)
            · refine lv_iload_n hx hb d_Mo_unit_140 rfl (lv_at hl 1 rfl) ?_
              refine fw_put (ci := 5) (v := .int (iZ ((u : Int)))) (ty := .int) (C := rMo) (T := fMo) (N := 26) hx hb hts iMo yMo_t yMo_ok yMo_nm hown hK hF hmo rfl 4 (by decide) (hts _ t_512) (fun _ h9 => h9) rfl (by decide +kernel) rfl rfl (Nat.le_of_ble_eq_true rfl) d_Mo_unit_141 (fun H locs hF => ?_)
              obtain ⟨w108, ew108⟩ : ∃ zw : fw, zw = fU w106 b (.inr (5, [.int (iZ ((nTa QA : Int))), .int (iZ (nTi QA)), .int (iZ (nId QA)), .int (iZ (nSw QA)), .int (iZ ((u : Int))), .int (iZ (nBu QA)), .int (bZ (nSt QA)), .ref (ad 0), .ref (ad 1), .ref (ad 2), .ref (ad 3), .ref (ad 4), .ref (ad 5), .ref (ad 6), .ref (ad 7), .ref (ad 8), .ref (ad 9), .ref (ad 10), .ref (ad 11), .ref (ad 12), .ref (ad 13), .ref (ad 14), .ref (ad 15), .ref (ad 16), .ref (ad 17), .ref (ad 18)])) := ⟨_, rfl⟩
              have hF := fW_to ew108 hF
              have h109 : w108 b = some (.inr (5, [.int (iZ ((nTa QA : Int))), .int (iZ (nTi QA)), .int (iZ (nId QA)), .int (iZ (nSw QA)), .int (iZ ((u : Int))), .int (iZ (nBu QA)), .int (bZ (nSt QA)), .ref (ad 0), .ref (ad 1), .ref (ad 2), .ref (ad 3), .ref (ad 4), .ref (ad 5), .ref (ad 6), .ref (ad 7), .ref (ad 8), .ref (ad 9), .ref (ad 10), .ref (ad 11), .ref (ad 12), .ref (ad 13), .ref (ad 14), .ref (ad 15), .ref (ad 16), .ref (ad 17), .ref (ad 18)])) := by rw [ew108]; exact fU_s _ _ _
              have h110 : w108 (ad 0) = some (aZ g.2.1 6 (nA QA 0)) := by rw [ew108]; exact fU_k (fw_ne qa0 hmo ne_lr) qa0
              have h111 : w108 (ad 1) = some (aZ g.2.1 6 (nA QA 1)) := by rw [ew108]; exact fU_k (fw_ne qa1 hmo ne_lr) qa1
              have h112 : w108 (ad 2) = some (aZ g.2.1 6 (nA QA 2)) := by rw [ew108]; exact fU_k (fw_ne qa2 hmo ne_lr) qa2
              have h113 : w108 (ad 3) = some (aZ g.2.1 6 (nA QA 3)) := by rw [ew108]; exact fU_k (fw_ne qa3 hmo ne_lr) qa3
              have h114 : w108 (ad 4) = some (aZ g.2.1 6 (nA QA 4)) := by rw [ew108]; exact fU_k (fw_ne qa4 hmo ne_lr) qa4
              have h115 : w108 (ad 5) = some (aZ g.2.1 4 (nA QA 5)) := by rw [ew108]; exact fU_k (fw_ne qa5 hmo ne_lr) qa5
              have h116 : w108 (ad 6) = some (aZ g.2.1 6 (nA QA 6)) := by rw [ew108]; exact fU_k (fw_ne qa6 hmo ne_lr) qa6
              have h117 : w108 (ad 7) = some (aZ g.2.1 18 (nA QA 7)) := by rw [ew108]; exact fU_k (fw_ne qa7 hmo ne_lr) qa7
              have h118 : w108 (ad 8) = some (aZ g.2.1 18 (nA QA 8)) := by rw [ew108]; exact fU_k (fw_ne qa8 hmo ne_lr) qa8
              have h119 : w108 (ad 9) = some (aZ g.2.1 18 (nA QA 9)) := by rw [ew108]; exact fU_k (fw_ne qa9 hmo ne_lr) qa9
              have h120 : w108 (ad 10) = some (aZ g.2.1 6 (nA QA 10)) := by rw [ew108]; exact fU_k (fw_ne qa10 hmo ne_lr) qa10
              have h121 : w108 (ad 11) = some (aZ g.2.1 48 (nA QA 11)) := by rw [ew108]; exact fU_k (fw_ne qa11 hmo ne_lr) qa11
              have h122 : w108 (ad 12) = some (aZ g.2.1 6 (nA QA 12)) := by rw [ew108]; exact fU_k (fw_ne qa12 hmo ne_lr) qa12
              have h123 : w108 (ad 13) = some (aZ g.2.1 6 (nA QA 13)) := by rw [ew108]; exact fU_k (fw_ne qa13 hmo ne_lr) qa13
              have h124 : w108 (ad 14) = some (aZ g.2.1 6 (nA QA 14)) := by rw [ew108]; exact fU_k (fw_ne qa14 hmo ne_lr) qa14
              have h125 : w108 (ad 15) = some (aZ g.2.1 6 (nA QA 15)) := by rw [ew108]; exact fU_k (fw_ne qa15 hmo ne_lr) qa15
              have h126 : w108 (ad 16) = some (aZ g.2.1 6 (nA QA 16)) := by rw [ew108]; exact fU_k (fw_ne qa16 hmo ne_lr) qa16
              have h127 : w108 (ad 17) = some (aZ g.2.1 6 (nA QA 17)) := by rw [ew108]; exact fU_k (fw_ne qa17 hmo ne_lr) qa17
              have h128 : w108 (ad 18) = some (aZ g.2.1 64 (nA QA 18)) := by rw [ew108]; exact fU_k (fw_ne qa18 hmo ne_lr) qa18
              refine lv_aload_n hx hb d_Mo_unit_144 rfl (lv_at hl 2 rfl) ?_
              refine fw_get (ci := 5) (v := .ref (ad 18)) (C := rMo) (T := fMo) (N := 26) hx hb hts iMo hown hK hF.1 h109 rfl 25 (by decide) (hts _ t_533) (fun _ h9 => h9) rfl d_Mo_unit_145 ?_
              refine lv_aload_n hx hb d_Mo_unit_148 rfl (lv_at hl 2 rfl) ?_
              refine fw_get (ci := 5) (v := .int (iZ (nTi QA))) (C := rMo) (T := fMo) (N := 26) hx hb hts iMo hown hK hF.1 h109 rfl 1 (by decide) (hts _ t_509) (fun _ h9 => h9) rfl d_Mo_unit_149 ?_
              refine lv_bipush (v := iZ 64) hx hb d_Mo_unit_152 (by decide) ?_
              refine zz_irem hx hb d_Mo_unit_154 (by omega) (by omega) (by omega) (by omega) ?_
              refine lv_aload_n hx hb d_Mo_unit_155 rfl (lv_at hl 2 rfl) ?_
              refine fw_get (ci := 5) (v := .int (iZ ((u : Int)))) (C := rMo) (T := fMo) (N := 26) hx hb hts iMo hown hK hF.1 h109 rfl 4 (by decide) (hts _ t_512) (fun _ h9 => h9) rfl d_Mo_unit_156 ?_
              refine fw_iast (x := (u : Int)) hx hb hK hF h128 (by decide) (((nTi QA % 64).toNat)) (by omega) (by omega) d_Mo_unit_159 (fun H locs hF => ?_)
              obtain ⟨w129, ew129⟩ : ∃ zw : fw, zw = fU w108 (ad 18) (aZ g.2.1 64 (va_up (nA QA 18) (((nTi QA % 64).toNat)) ((u : Int)))) := ⟨_, rfl⟩
              have hF := fW_to ew129 hF
              have h130 : w129 b = some (.inr (5, [.int (iZ ((nTa QA : Int))), .int (iZ (nTi QA)), .int (iZ (nId QA)), .int (iZ (nSw QA)), .int (iZ ((u : Int))), .int (iZ (nBu QA)), .int (bZ (nSt QA)), .ref (ad 0), .ref (ad 1), .ref (ad 2), .ref (ad 3), .ref (ad 4), .ref (ad 5), .ref (ad 6), .ref (ad 7), .ref (ad 8), .ref (ad 9), .ref (ad 10), .ref (ad 11), .ref (ad 12), .ref (ad 13), .ref (ad 14), .ref (ad 15), .ref (ad 16), .ref (ad 17), .ref (ad 18)])) := by rw [ew129]; exact fU_k (fw_ne h109 h128 ne_rl) h109
              have h131 : w129 (ad 0) = some (aZ g.2.1 6 (nA QA 0)) := by rw [ew129]; exact fU_k (hinj 0 18 (by decide) (by decide) (by decide)) h110
              have h132 : w129 (ad 1) = some (aZ g.2.1 6 (nA QA 1)) := by rw [ew129]; exact fU_k (hinj 1 18 (by decide) (by decide) (by decide)) h111
              have h133 : w129 (ad 2) = some (aZ g.2.1 6 (nA QA 2)) := by rw [ew129]; exact fU_k (hinj 2 18 (by decide) (by decide) (by decide)) h112
              have h134 : w129 (ad 3) = some (aZ g.2.1 6 (nA QA 3)) := by rw [ew129]; exact fU_k (hinj 3 18 (by decide) (by decide) (by decide)) h113
              have h135 : w129 (ad 4) = some (aZ g.2.1 6 (nA QA 4)) := by rw [ew129]; exact fU_k (hinj 4 18 (by decide) (by decide) (by decide)) h114
              have h136 : w129 (ad 5) = some (aZ g.2.1 4 (nA QA 5)) := by rw [ew129]; exact fU_k (hinj 5 18 (by decide) (by decide) (by decide)) h115
              have h137 : w129 (ad 6) = some (aZ g.2.1 6 (nA QA 6)) := by rw [ew129]; exact fU_k (hinj 6 18 (by decide) (by decide) (by decide)) h116
              have h138 : w129 (ad 7) = some (aZ g.2.1 18 (nA QA 7)) := by rw [ew129]; exact fU_k (hinj 7 18 (by decide) (by decide) (by decide)) h117
              have h139 : w129 (ad 8) = some (aZ g.2.1 18 (nA QA 8)) := by rw [ew129]; exact fU_k (hinj 8 18 (by decide) (by decide) (by decide)) h118
              have h140 : w129 (ad 9) = some (aZ g.2.1 18 (nA QA 9)) := by rw [ew129]; exact fU_k (hinj 9 18 (by decide) (by decide) (by decide)) h119
              have h141 : w129 (ad 10) = some (aZ g.2.1 6 (nA QA 10)) := by rw [ew129]; exact fU_k (hinj 10 18 (by decide) (by decide) (by decide)) h120
              have h142 : w129 (ad 11) = some (aZ g.2.1 48 (nA QA 11)) := by rw [ew129]; exact fU_k (hinj 11 18 (by decide) (by decide) (by decide)) h121
              have h143 : w129 (ad 12) = some (aZ g.2.1 6 (nA QA 12)) := by rw [ew129]; exact fU_k (hinj 12 18 (by decide) (by decide) (by decide)) h122
              have h144 : w129 (ad 13) = some (aZ g.2.1 6 (nA QA 13)) := by rw [ew129]; exact fU_k (hinj 13 18 (by decide) (by decide) (by decide)) h123
              have h145 : w129 (ad 14) = some (aZ g.2.1 6 (nA QA 14)) := by rw [ew129]; exact fU_k (hinj 14 18 (by decide) (by decide) (by decide)) h124
              have h146 : w129 (ad 15) = some (aZ g.2.1 6 (nA QA 15)) := by rw [ew129]; exact fU_k (hinj 15 18 (by decide) (by decide) (by decide)) h125
              have h147 : w129 (ad 16) = some (aZ g.2.1 6 (nA QA 16)) := by rw [ew129]; exact fU_k (hinj 16 18 (by decide) (by decide) (by decide)) h126
              have h148 : w129 (ad 17) = some (aZ g.2.1 6 (nA QA 17)) := by rw [ew129]; exact fU_k (hinj 17 18 (by decide) (by decide) (by decide)) h127
              have h149 : w129 (ad 18) = some (aZ g.2.1 64 (va_up (nA QA 18) (((nTi QA % 64).toNat)) ((u : Int)))) := by rw [ew129]; exact fU_s _ _ _
              refine lv_aload_n hx hb d_Mo_unit_160 rfl (lv_at hl 2 rfl) ?_
              refine lv_dup hx hb d_Mo_unit_161 rfl ?_
              refine fw_get (ci := 5) (v := .int (iZ (nTi QA))) (C := rMo) (T := fMo) (N := 26) hx hb hts iMo hown hK hF.1 h130 rfl 1 (by decide) (hts _ t_509) (fun _ h9 => h9) rfl d_Mo_unit_162 ?_
              refine lv_iconst (v := iZ 1) hx hb d_Mo_unit_165 rfl ?_
              refine zz_iadd hx hb d_Mo_unit_166 ?_
              refine fw_put (ci := 5) (v := .int (iZ ((nTi QA) + 1))) (ty := .int) (C := rMo) (T := fMo) (N := 26) hx hb hts iMo yMo_t yMo_ok yMo_nm hown hK hF h130 rfl 1 (by decide) (hts _ t_509) (fun _ h9 => h9) rfl (by decide +kernel) rfl rfl (Nat.le_of_ble_eq_true rfl) d_Mo_unit_167 (fun H locs hF => ?_)
              obtain ⟨w150, ew150⟩ : ∃ zw : fw, zw = fU w129 b (.inr (5, [.int (iZ ((nTa QA : Int))), .int (iZ ((nTi QA) + 1)), .int (iZ (nId QA)), .int (iZ (nSw QA)), .int (iZ ((u : Int))), .int (iZ (nBu QA)), .int (bZ (nSt QA)), .ref (ad 0), .ref (ad 1), .ref (ad 2), .ref (ad 3), .ref (ad 4), .ref (ad 5), .ref (ad 6), .ref (ad 7), .ref (ad 8), .ref (ad 9), .ref (ad 10), .ref (ad 11), .ref (ad 12), .ref (ad 13), .ref (ad 14), .ref (ad 15), .ref (ad 16), .ref (ad 17), .ref (ad 18)])) := ⟨_, rfl⟩
              have hF := fW_to ew150 hF
              have h151 : w150 b = some (.inr (5, [.int (iZ ((nTa QA : Int))), .int (iZ ((nTi QA) + 1)), .int (iZ (nId QA)), .int (iZ (nSw QA)), .int (iZ ((u : Int))), .int (iZ (nBu QA)), .int (bZ (nSt QA)), .ref (ad 0), .ref (ad 1), .ref (ad 2), .ref (ad 3), .ref (ad 4), .ref (ad 5), .ref (ad 6), .ref (ad 7), .ref (ad 8), .ref (ad 9), .ref (ad 10), .ref (ad 11), .ref (ad 12), .ref (ad 13), .ref (ad 14), .ref (ad 15), .ref (ad 16), .ref (ad 17), .ref (ad 18)])) := by rw [ew150]; exact fU_s _ _ _
              have h152 : w150 (ad 0) = some (aZ g.2.1 6 (nA QA 0)) := by rw [ew150]; exact fU_k (fw_ne h131 h130 ne_lr) h131
              have h153 : w150 (ad 1) = some (aZ g.2.1 6 (nA QA 1)) := by rw [ew150]; exact fU_k (fw_ne h132 h130 ne_lr) h132
              have h154 : w150 (ad 2) = some (aZ g.2.1 6 (nA QA 2)) := by rw [ew150]; exact fU_k (fw_ne h133 h130 ne_lr) h133
              have h155 : w150 (ad 3) = some (aZ g.2.1 6 (nA QA 3)) := by rw [ew150]; exact fU_k (fw_ne h134 h130 ne_lr) h134
              have h156 : w150 (ad 4) = some (aZ g.2.1 6 (nA QA 4)) := by rw [ew150]; exact fU_k (fw_ne h135 h130 ne_lr) h135
              have h157 : w150 (ad 5) = some (aZ g.2.1 4 (nA QA 5)) := by rw [ew150]; exact fU_k (fw_ne h136 h130 ne_lr) h136
              have h158 : w150 (ad 6) = some (aZ g.2.1 6 (nA QA 6)) := by rw [ew150]; exact fU_k (fw_ne h137 h130 ne_lr) h137
              have h159 : w150 (ad 7) = some (aZ g.2.1 18 (nA QA 7)) := by rw [ew150]; exact fU_k (fw_ne h138 h130 ne_lr) h138
              have h160 : w150 (ad 8) = some (aZ g.2.1 18 (nA QA 8)) := by rw [ew150]; exact fU_k (fw_ne h139 h130 ne_lr) h139
              have h161 : w150 (ad 9) = some (aZ g.2.1 18 (nA QA 9)) := by rw [ew150]; exact fU_k (fw_ne h140 h130 ne_lr) h140
              have h162 : w150 (ad 10) = some (aZ g.2.1 6 (nA QA 10)) := by rw [ew150]; exact fU_k (fw_ne h141 h130 ne_lr) h141
              have h163 : w150 (ad 11) = some (aZ g.2.1 48 (nA QA 11)) := by rw [ew150]; exact fU_k (fw_ne h142 h130 ne_lr) h142
              have h164 : w150 (ad 12) = some (aZ g.2.1 6 (nA QA 12)) := by rw [ew150]; exact fU_k (fw_ne h143 h130 ne_lr) h143
              have h165 : w150 (ad 13) = some (aZ g.2.1 6 (nA QA 13)) := by rw [ew150]; exact fU_k (fw_ne h144 h130 ne_lr) h144
              have h166 : w150 (ad 14) = some (aZ g.2.1 6 (nA QA 14)) := by rw [ew150]; exact fU_k (fw_ne h145 h130 ne_lr) h145
              have h167 : w150 (ad 15) = some (aZ g.2.1 6 (nA QA 15)) := by rw [ew150]; exact fU_k (fw_ne h146 h130 ne_lr) h146
              have h168 : w150 (ad 16) = some (aZ g.2.1 6 (nA QA 16)) := by rw [ew150]; exact fU_k (fw_ne h147 h130 ne_lr) h147
              have h169 : w150 (ad 17) = some (aZ g.2.1 6 (nA QA 17)) := by rw [ew150]; exact fU_k (fw_ne h148 h130 ne_lr) h148
              have h170 : w150 (ad 18) = some (aZ g.2.1 64 (va_up (nA QA 18) (((nTi QA % 64).toNat)) ((u : Int)))) := by rw [ew150]; exact fU_k (fw_ne h149 h130 ne_lr) h149
              have hofX : ∀ q, ¬ O q → w150 q = w q := fun q hq => (show w150 q = w106 q from by rw [ew150, fU_n (own_ne hq hO.1), ew129, fU_n (own_ne hq (hO.2 18 (by decide))), ew108, fU_n (own_ne hq hO.1)]).trans (hofW q hq)
              exact tail4 (uvB QA (u : Int)) w150 H locs (by rw [← hfin, uvR, hr, eQ]; exact congrArg (ltI _) ewk.1) hus (by rw [uvB, if_neg (by omega)]; exact ⟨h151, h152, h153, h154, h155, h156, h157, h158, h159, h160, h161, h162, h163, h164, h165, h166, h167, h168, h169, h170, hinj⟩) (MoI_uvB hIW (by omega) (by omega)) hofX hF ls (lv_sub hl [2] rfl)
            · exfalso; omega
        · exfalso; omega
      | succ f ih =>
        intro i r hif hv hk ls hl
        refine lv_iload_n hx hb d_Mo_unit_70 rfl (lv_at hl 0 rfl) ?_
        refine lv_aload_n hx hb d_Mo_unit_71 rfl (lv_at hl 2 rfl) ?_
        refine fw_get (ci := 5) (v := .int (iZ ((nTa P : Int)))) (C := rMo) (T := fMo) (N := 26) hx hb hts iMo hown hK hF.1 hmo rfl 0 (by decide) (hts _ t_508) (fun _ h9 => h9) rfl d_Mo_unit_72 ?_
        refine zz_icmp_ge (tgt := 108) hx hb d_Mo_unit_75 (by decide) ⟨by omega, by omega⟩ ⟨by omega, by omega⟩ (fun c75 => ?_) (fun c75 => ?_)
        · exfalso; omega
        · obtain ⟨r0i, r1i, r2i, r3i, r4i, r6i, r10i, r12i, r16i⟩ := itk i (by omega)
          refine lv_aload_n hx hb d_Mo_unit_78 rfl (lv_at hl 2 rfl) ?_
          refine fw_get (ci := 5) (v := .ref (ad 10)) (C := rMo) (T := fMo) (N := 26) hx hb hts iMo hown hK hF.1 hmo rfl 17 (by decide) (hts _ t_525) (fun _ h9 => h9) rfl d_Mo_unit_79 ?_
          refine lv_iload_n hx hb d_Mo_unit_82 rfl (lv_at hl 0 rfl) ?_
          refine fw_iald hx hb hK hF.1 qa10 (by decide) i rfl (by omega) d_Mo_unit_83 ?_
          refine zz_if_le (tgt := 102) hx hb d_Mo_unit_84 (by decide) ⟨by omega, by omega⟩ (fun c84 => ?_) (fun c84 => ?_)
          · refine lv_iinc (v := iZ (((i : Int)) + 1)) (lv' := [(2, .int (iZ (((i : Int)) + 1))), (1, .int (iZ r)), (0, .ref b)]) hx hb d_Mo_unit_102 hl (k := 0) rfl (iZ_add _ _) (by decide) rfl (fun ls hl => ?_)
            refine lv_goto (tgt := 70) hx hb d_Mo_unit_105 (by decide) ?_
            exact ih (i + 1) r (by omega) (by rw [hv, ruF, if_neg (fun q => by omega)]) hk ls (lv_sub hl [0, 1, 2] rfl)
          · refine lv_iload_n hx hb d_Mo_unit_87 rfl (lv_at hl 1 rfl) ?_
            refine zz_if_lt (tgt := 100) hx hb d_Mo_unit_88 (by decide) (by rcases hk with z | ⟨u, z1, z2, z3⟩ <;> constructor <;> omega) (fun c88 => ?_) (fun c88 => ?_)
            · refine lv_iload_n hx hb d_Mo_unit_100 rfl (lv_at hl 0 rfl) ?_
              refine lv_istore_n (lv' := [(1, .int (iZ ((i : Int)))), (2, .int (iZ ((i : Int)))), (0, .ref b)]) hx hb d_Mo_unit_101 rfl hl (by decide) rfl (fun ls hl => ?_)
              refine lv_iinc (v := iZ (((i : Int)) + 1)) (lv' := [(2, .int (iZ (((i : Int)) + 1))), (1, .int (iZ ((i : Int)))), (0, .ref b)]) hx hb d_Mo_unit_102 hl (k := 1) rfl (iZ_add _ _) (by decide) rfl (fun ls hl => ?_)
              refine lv_goto (tgt := 70) hx hb d_Mo_unit_105 (by decide) ?_
              exact ih (i + 1) ((i : Int)) (by omega) (by rw [hv, ruF, if_pos ⟨c84, Or.inl c88⟩]) (Or.inr ⟨i, by omega, rfl, c84⟩) ls (lv_sub hl [0, 1, 2] rfl)
            · obtain ⟨u, hun, eu, hud⟩ := hk.resolve_left (by omega)
              subst eu
              refine lv_aload_n hx hb d_Mo_unit_91 rfl (lv_at hl 2 rfl) ?_
              refine lv_iload_n hx hb d_Mo_unit_92 rfl (lv_at hl 0 rfl) ?_
              refine lv_iload_n hx hb d_Mo_unit_93 rfl (lv_at hl 1 rfl) ?_
              refine fw_ro (r := .int (bZ (gnM P i u))) (va_runV (As := [.int (iZ ((i : Int))), .int (iZ ((u : Int)))]) (rest := []) ⟨hx, hb, hml, hown, hts⟩ (c_Mo_before l g wP b ad P tb i u hMP hIP (by omega) (by omega)) (cwV 2 hts (gdV k_Mo_goesBefore t_635 t_637 t_40 t_50) rfl rfl rfl (by decide +kernel) ⟨Nat.le_of_ble_eq_true rfl, Nat.le_of_ble_eq_true rfl⟩) ⟨roP_blind, fw_recv hK hF.1 hmo rfl, roP_pre hK hF.1⟩ rfl rfl hl.1 rfl (lv_room (Nat.le_of_ble_eq_true rfl)) d_Mo_unit_94 ⟨by decide, by decide⟩) ?_
              refine zb_if_eq (tgt := 102) hx hb d_Mo_unit_97 (by decide) (fun c97 => ?_) (fun c97 => ?_)
              · refine lv_iinc (v := iZ (((i : Int)) + 1)) (lv' := [(2, .int (iZ (((i : Int)) + 1))), (1, .int (iZ ((u : Int)))), (0, .ref b)]) hx hb d_Mo_unit_102 hl (k := 0) rfl (iZ_add _ _) (by decide) rfl (fun ls hl => ?_)
                refine lv_goto (tgt := 70) hx hb d_Mo_unit_105 (by decide) ?_
                exact ih (i + 1) ((u : Int)) (by omega) (by rw [hv, ruF, if_neg (fun q => q.2.elim (fun z => by omega) (fun z => by rw [Int.toNat_natCast, c97] at z; cases z))]) (Or.inr ⟨u, hun, rfl, hud⟩) ls (lv_sub hl [0, 1, 2] rfl)
              · refine lv_iload_n hx hb d_Mo_unit_100 rfl (lv_at hl 0 rfl) ?_
                refine lv_istore_n (lv' := [(1, .int (iZ ((i : Int)))), (2, .int (iZ ((i : Int)))), (0, .ref b)]) hx hb d_Mo_unit_101 rfl hl (by decide) rfl (fun ls hl => ?_)
                refine lv_iinc (v := iZ (((i : Int)) + 1)) (lv' := [(2, .int (iZ (((i : Int)) + 1))), (1, .int (iZ ((i : Int)))), (0, .ref b)]) hx hb d_Mo_unit_102 hl (k := 1) rfl (iZ_add _ _) (by decide) rfl (fun ls hl => ?_)
                refine lv_goto (tgt := 70) hx hb d_Mo_unit_105 (by decide) ?_
                exact ih (i + 1) ((i : Int)) (by omega) (by rw [hv, ruF, if_pos ⟨c84, Or.inr (by rw [Int.toNat_natCast]; exact c97)⟩]) (Or.inr ⟨i, by omega, rfl, c84⟩) ls (lv_sub hl [0, 1, 2] rfl)
    exact lp (nTa P) 0 ((-1)) (by omega) rfl (Or.inl rfl) ls (lv_sub hl [0, 1, 2] rfl)
  refine lv_iconst (v := iZ 0) hx hb d_Mo_unit_0 rfl ?_
  refine lv_istore_n (lv' := [(1, .int (iZ 0)), (0, .ref b)]) hx hb d_Mo_unit_1 rfl hl (by decide) rfl (fun ls hl => ?_)
  have lp : ∀ (f i : Nat), i + f = nTa N → (usM N = usF N f i) → ∀ ls : Array Slot, lv_has ls 4 [(1, .int (iZ ((i : Int)))), (0, .ref b)] → W p l e ({ frames := 4, cells := 0, slots := 0, locals := 89 }) s m ([.ref b] : List Value).toArray below meth c s.heap [] 0 0 (MQ below (va_Qi ((fun rr1 w1 => rr1 = bZ (!usM N) ∧ MoP g w1 b ad (utM N) ∧ ∀ q, ¬ O q → w1 q = w q)) (rwB g w s.heap.size) (fA w s.heap.size)) ([.ref b] : List Value).toArray s 0 0 (fA w s.heap.size)) (F0 m 2 ls []) := by
    intro f
    induction f with
    | zero =>
      intro i hif hv ls hl
      refine lv_iload_n hx hb d_Mo_unit_2 rfl (lv_at hl 0 rfl) ?_
      refine lv_aload_n hx hb d_Mo_unit_3 rfl (lv_at hl 1 rfl) ?_
      refine fw_get (ci := 5) (v := .int (iZ ((nTa N : Int)))) (C := rMo) (T := fMo) (N := 26) hx hb hts iMo hown hK hF.1 hmo rfl 0 (by decide) (hts _ t_508) (fun _ h9 => h9) rfl d_Mo_unit_4 ?_
      refine zz_icmp_ge (tgt := 37) hx hb d_Mo_unit_7 (by decide) ⟨by omega, by omega⟩ ⟨by omega, by omega⟩ (fun c7 => ?_) (fun c7 => ?_)
      · have hus : usM N = false := by rw [hv]; rfl
        refine lv_iconst (v := iZ 0) hx hb d_Mo_unit_37 rfl ?_
        refine lv_istore_n (lv' := [(1, .int (iZ 0)), (0, .ref b)]) hx hb d_Mo_unit_38 rfl hl (by decide) rfl (fun ls hl => ?_)
        have lp : ∀ (f i : Nat) (P : MoM) (wP : fw) (H : Heap) (locs : List Loc), i + f = nTa N → P = luI N i → MoP g wP b ad P → MoI P tb → (∀ q, ¬ O q → wP q = w q) → fW g (fA w s.heap.size) s H locs wP → ∀ ls : Array Slot, lv_has ls 4 [(1, .int (iZ (i : Int))), (0, .ref b)] → W p l e ({ frames := 4, cells := 0, slots := 0, locals := 89 }) s m ([.ref b] : List Value).toArray below meth c H locs 0 0 (MQ below (va_Qi ((fun rr1 w1 => rr1 = bZ (!usM N) ∧ MoP g w1 b ad (utM N) ∧ ∀ q, ¬ O q → w1 q = w q)) (rwB g w s.heap.size) (fA w s.heap.size)) ([.ref b] : List Value).toArray s 0 0 (fA w s.heap.size)) (F0 m 39 ls []) := by
          intro f
          induction f with
          | zero =>
            intro i P wP H locs hif eP hMP hIP hofP hF ls hl
            obtain ⟨ea, et, e0, e4, e10⟩ := luI_same N i
            have eco := coM_luI N i i
            rw [← eP] at ea et e0 e4 e10 eco
            obtain ⟨hmo, qa0, qa1, qa2, qa3, qa4, qa5, qa6, qa7, qa8, qa9, qa10, qa11, qa12, qa13, qa14, qa15, qa16, qa17, qa18, hinj⟩ := id hMP
            obtain ⟨itb, in6, iti, ila, ibu, ice, ion, ifr, ilo, ire, itk⟩ := id hIP
            refine lv_iload_n hx hb d_Mo_unit_39 rfl (lv_at hl 0 rfl) ?_
            refine lv_aload_n hx hb d_Mo_unit_40 rfl (lv_at hl 1 rfl) ?_
            refine fw_get (ci := 5) (v := .int (iZ ((nTa P : Int)))) (C := rMo) (T := fMo) (N := 26) hx hb hts iMo hown hK hF.1 hmo rfl 0 (by decide) (hts _ t_508) (fun _ h9 => h9) rfl d_Mo_unit_41 ?_
            refine zz_icmp_ge (tgt := 66) hx hb d_Mo_unit_44 (by decide) ⟨by omega, by omega⟩ ⟨by omega, by omega⟩ (fun c44 => ?_) (fun c44 => ?_)
            · have ei : i = nTa N := by omega
              exact tail3 P wP H locs (by rw [utM, if_neg (by rw [hus]; decide), uvM, ← ei, ← eP]) hus (by omega) hMP hIP hofP hF ls (lv_sub hl [1] rfl)
            · exfalso; omega
          | succ f ih =>
            intro i P wP H locs hif eP hMP hIP hofP hF ls hl
            obtain ⟨ea, et, e0, e4, e10⟩ := luI_same N i
            have eco := coM_luI N i i
            rw [← eP] at ea et e0 e4 e10 eco
            obtain ⟨hmo, qa0, qa1, qa2, qa3, qa4, qa5, qa6, qa7, qa8, qa9, qa10, qa11, qa12, qa13, qa14, qa15, qa16, qa17, qa18, hinj⟩ := id hMP
            obtain ⟨itb, in6, iti, ila, ibu, ice, ion, ifr, ilo, ire, itk⟩ := id hIP
            refine lv_iload_n hx hb d_Mo_unit_39 rfl (lv_at hl 0 rfl) ?_
            refine lv_aload_n hx hb d_Mo_unit_40 rfl (lv_at hl 1 rfl) ?_
            refine fw_get (ci := 5) (v := .int (iZ ((nTa P : Int)))) (C := rMo) (T := fMo) (N := 26) hx hb hts iMo hown hK hF.1 hmo rfl 0 (by decide) (hts _ t_508) (fun _ h9 => h9) rfl d_Mo_unit_41 ?_
            refine zz_icmp_ge (tgt := 66) hx hb d_Mo_unit_44 (by decide) ⟨by omega, by omega⟩ ⟨by omega, by omega⟩ (fun c44 => ?_) (fun c44 => ?_)
            · exfalso; omega
            · obtain ⟨r0i, r1i, r2i, r3i, r4i, r6i, r10i, r12i, r16i⟩ := itk i (by omega)
              refine lv_aload_n hx hb d_Mo_unit_47 rfl (lv_at hl 1 rfl) ?_
              refine lv_iload_n hx hb d_Mo_unit_48 rfl (lv_at hl 0 rfl) ?_
              refine fw_ro (r := .int (bZ (coM P i))) (va_runV (As := [.int (iZ ((i : Int)))]) (rest := []) ⟨hx, hb, hml, hown, hts⟩ (c_Mo_comes l g wP b ad P tb i hMP hIP (by omega)) (cwV 1 hts (gdV k_Mo_comes t_631 t_633 t_39 t_50) rfl rfl rfl (by decide +kernel) ⟨Nat.le_of_ble_eq_true rfl, Nat.le_of_ble_eq_true rfl⟩) ⟨roP_blind, fw_recv hK hF.1 hmo rfl, roP_pre hK hF.1⟩ rfl rfl hl.1 rfl (lv_room (Nat.le_of_ble_eq_true rfl)) d_Mo_unit_49 ⟨by decide, by decide⟩) ?_
              refine zb_if_eq (tgt := 60) hx hb d_Mo_unit_52 (by decide) (fun c52 => ?_) (fun c52 => ?_)
              · refine lv_iinc (v := iZ (((i : Int)) + 1)) (lv' := [(1, .int (iZ (((i : Int)) + 1))), (0, .ref b)]) hx hb d_Mo_unit_60 hl (k := 0) rfl (iZ_add _ _) (by decide) rfl (fun ls hl => ?_)
                refine lv_goto (tgt := 39) hx hb d_Mo_unit_63 (by decide) ?_
                exact ih (i + 1) P wP H locs (by omega) (by rw [luI, ← eP, luS, if_neg (by rw [c52]; decide)]) hMP hIP hofP hF ls (lv_sub hl [0, 1] rfl)
              · have hno := usF_no N (nTa N) 0 hus i (by omega) (by omega)
                have hw8 : nA P 10 i < 8 := by have h9 := e10 i (Nat.le_refl _); have h8 : ¬ nA N 10 i = 8 := fun z => hno ⟨by rw [← eco]; exact c52, z⟩; omega
                refine lv_aload_n hx hb d_Mo_unit_55 rfl (lv_at hl 1 rfl) ?_
                refine lv_iload_n hx hb d_Mo_unit_56 rfl (lv_at hl 0 rfl) ?_
                refine fw_callv (va_runV (As := [.int (iZ ((i : Int)))]) (rest := []) ⟨hx, hb, hml, hown, hts⟩ (c_Mo_letGo l g wP H.size b ad P O tb i hMP hIP hO (by omega) hw8) (cwV 1 hts (gdV k_Mo_letGo t_619 t_621 t_37 t_50) rfl rfl rfl (by decide +kernel) ⟨Nat.le_of_ble_eq_true rfl, Nat.le_of_ble_eq_true rfl⟩) ⟨rwP_blind, fw_recv hK hF.1 hmo rfl, rwP_pre hK hT hA hF⟩ rfl rfl hl.1 rfl (lv_room (Nat.le_of_ble_eq_true rfl)) d_Mo_unit_57 ⟨by decide, by decide⟩) hF hA (fun w171 H locs hp172 hz hF => ?_)
                obtain ⟨k1, k2⟩ := hp172
                refine lv_iinc (v := iZ (((i : Int)) + 1)) (lv' := [(1, .int (iZ (((i : Int)) + 1))), (0, .ref b)]) hx hb d_Mo_unit_60 hl (k := 0) rfl (iZ_add _ _) (by decide) rfl (fun ls hl => ?_)
                refine lv_goto (tgt := 39) hx hb d_Mo_unit_63 (by decide) ?_
                exact ih (i + 1) (lgM P i) w171 H locs (by omega) (by rw [luI, ← eP, luS, if_pos c52]) k1 (MoI_lg hIP (fun _ => hw8)) (fun q hq => (k2 q hq).trans (hofP q hq)) hF ls (lv_sub hl [0, 1] rfl)
        exact lp (nTa N) 0 N w s.heap [] (by omega) rfl hM0 hI0 (fun q _ => rfl) hF ls (lv_sub hl [0, 1] rfl)
      · exfalso; omega
    | succ f ih =>
      intro i hif hv ls hl
      refine lv_iload_n hx hb d_Mo_unit_2 rfl (lv_at hl 0 rfl) ?_
      refine lv_aload_n hx hb d_Mo_unit_3 rfl (lv_at hl 1 rfl) ?_
      refine fw_get (ci := 5) (v := .int (iZ ((nTa N : Int)))) (C := rMo) (T := fMo) (N := 26) hx hb hts iMo hown hK hF.1 hmo rfl 0 (by decide) (hts _ t_508) (fun _ h9 => h9) rfl d_Mo_unit_4 ?_
      refine zz_icmp_ge (tgt := 37) hx hb d_Mo_unit_7 (by decide) ⟨by omega, by omega⟩ ⟨by omega, by omega⟩ (fun c7 => ?_) (fun c7 => ?_)
      · exfalso; omega
      · obtain ⟨r0i, r1i, r2i, r3i, r4i, r6i, r10i, r12i, r16i⟩ := itk i (by omega)
        refine lv_aload_n hx hb d_Mo_unit_10 rfl (lv_at hl 1 rfl) ?_
        refine lv_iload_n hx hb d_Mo_unit_11 rfl (lv_at hl 0 rfl) ?_
        refine fw_ro (r := .int (bZ (coM N i))) (va_runV (As := [.int (iZ ((i : Int)))]) (rest := []) ⟨hx, hb, hml, hown, hts⟩ (c_Mo_comes l g w b ad N tb i hM0 hI0 (by omega)) (cwV 1 hts (gdV k_Mo_comes t_631 t_633 t_39 t_50) rfl rfl rfl (by decide +kernel) ⟨Nat.le_of_ble_eq_true rfl, Nat.le_of_ble_eq_true rfl⟩) ⟨roP_blind, fw_recv hK hF.1 hmo rfl, roP_pre hK hF.1⟩ rfl rfl hl.1 rfl (lv_room (Nat.le_of_ble_eq_true rfl)) d_Mo_unit_12 ⟨by decide, by decide⟩) ?_
        refine zb_if_eq (tgt := 31) hx hb d_Mo_unit_15 (by decide) (fun c15 => ?_) (fun c15 => ?_)
        · refine lv_iinc (v := iZ (((i : Int)) + 1)) (lv' := [(1, .int (iZ (((i : Int)) + 1))), (0, .ref b)]) hx hb d_Mo_unit_31 hl (k := 0) rfl (iZ_add _ _) (by decide) rfl (fun ls hl => ?_)
          refine lv_goto (tgt := 2) hx hb d_Mo_unit_34 (by decide) ?_
          exact ih (i + 1) (by omega) (by rw [hv, usF, if_neg (fun q => by rw [c15] at q; exact Bool.false_ne_true q.1)]) ls (lv_sub hl [0, 1] rfl)
        · refine lv_aload_n hx hb d_Mo_unit_18 rfl (lv_at hl 1 rfl) ?_
          refine fw_get (ci := 5) (v := .ref (ad 10)) (C := rMo) (T := fMo) (N := 26) hx hb hts iMo hown hK hF.1 hmo rfl 17 (by decide) (hts _ t_525) (fun _ h9 => h9) rfl d_Mo_unit_19 ?_
          refine lv_iload_n hx hb d_Mo_unit_22 rfl (lv_at hl 0 rfl) ?_
          refine fw_iald hx hb hK hF.1 qa10 (by decide) i rfl (by omega) d_Mo_unit_23 ?_
          refine lv_bipush (v := iZ 8) hx hb d_Mo_unit_24 (by decide) ?_
          refine zz_icmp_ne (tgt := 31) hx hb d_Mo_unit_26 (by decide) ⟨by omega, by omega⟩ ⟨by omega, by omega⟩ (fun c26 => ?_) (fun c26 => ?_)
          · refine lv_iinc (v := iZ (((i : Int)) + 1)) (lv' := [(1, .int (iZ (((i : Int)) + 1))), (0, .ref b)]) hx hb d_Mo_unit_31 hl (k := 0) rfl (iZ_add _ _) (by decide) rfl (fun ls hl => ?_)
            refine lv_goto (tgt := 2) hx hb d_Mo_unit_34 (by decide) ?_
            exact ih (i + 1) (by omega) (by rw [hv, usF, if_neg (fun q => c26 q.2)]) ls (lv_sub hl [0, 1] rfl)
          · refine lv_iconst (v := iZ 0) hx hb d_Mo_unit_29 rfl ?_
            exact rw_zret hx hb hr (by decide) hlocks d_Mo_unit_30 (by omega) (by omega) hF ⟨(by rw [hv, usF, if_pos ⟨c15, c26⟩]; rfl), (by rw [utM, if_pos (by rw [hv, usF, if_pos ⟨c15, c26⟩])]; exact hM0), fun q _ => rfl⟩
  exact lp (nTa N) 0 (by omega) rfl ls (lv_sub hl [0, 1] rfl)
