/-! A unit of time -/
theorem RelC_hi {M : CsM} {N N' : MoM} {j : Nat} {H : HiS} (h : RelC M N j) (e : ∀ k, k ≠ 15 → k ≠ 18 → nA N' k = nA N k) : RelC (setHi M H) N' j := by
  unfold RelC
  rw [e 0 (by decide) (by decide), e 1 (by decide) (by decide), e 2 (by decide) (by decide), e 3 (by decide) (by decide), e 6 (by decide) (by decide), e 7 (by decide) (by decide), e 8 (by decide) (by decide), e 9 (by decide) (by decide), e 10 (by decide) (by decide), e 11 (by decide) (by decide), e 12 (by decide) (by decide), e 13 (by decide) (by decide), e 14 (by decide) (by decide), e 16 (by decide) (by decide), e 17 (by decide) (by decide)]
  exact h
theorem RelC_wn {M : CsM} {N : MoM} {t j : Nat} {d : TkD} (h : RelC M N j) (hj : j ≠ t) (hm : dNd (mTd M j) ≤ 8) (hs : mNs M j ≤ 3) : RelC (updTd M t d) (wkM N t) j := by
  obtain ⟨r1, ⟨r2, r2'⟩, r3, ⟨r4, r5⟩, r6, r7, r8, r9, rA, rB⟩ := h
  obtain ⟨w1, w2⟩ := wkM_at N hj
  have k7 := wkM_k N t (k := 7) (by decide) (by decide) (by decide) (by decide) (by decide)
  have k8 := wkM_k N t (k := 8) (by decide) (by decide) (by decide) (by decide) (by decide)
  have k9 := wkM_k N t (k := 9) (by decide) (by decide) (by decide) (by decide) (by decide)
  unfold RelC
  rw [mTd_upn M d hj, w1 0 (by decide), w1 1 (by decide), w1 2 (by decide), w1 3 (by decide), w1 6 (by decide), w1 10 (by decide), w1 12 (by decide), w1 13 (by decide), w1 14 (by decide), w1 16 (by decide), w1 17 (by decide), k7, k8, k9]
  exact ⟨r1, ⟨r2, r2'⟩, r3, ⟨r4, fun k hk => (w2 k (by omega)).trans (r5 k hk)⟩, r6, r7, r8, r9, rA, rB⟩
/-- the state behind the work: all but the late jobs -/
def RelW (M2 : CsM) (N2 : MoM) (ti : Int) : Prop :=
  RelG M2 N2 ∧ hTi (mHi M2) = ti + 1 ∧ ∀ j, j < mN M2 → RelC M2 N2 j ∧ RelX M2 N2 j (ti + 1) (ti + 1 + sPer (mTs M2 j)) ∧ nA N2 15 j = jlT (mTs M2 j) (mTd M2 j) ti
theorem rel_lt {M2 : CsM} {N2 : MoM} {ti : Int} (h : RelW M2 N2 ti) (hn : ∀ j, j < mN M2 → 0 ≤ dNd (mTd M2 j)) : Rel M2 (ltI N2 (mN M2)) := by
  obtain ⟨⟨g1, g2, g3, g4, g5, g6, g7, g8, g9⟩, ht, hT⟩ := h
  obtain ⟨s1, s2, s3⟩ := ltI_same N2 (mN M2)
  obtain ⟨q1, q2, q3, q4, q5⟩ := ltI_rest N2 (mN M2)
  refine ⟨⟨s1.trans g1, s2.trans g2, q1.trans g3, q2.trans g4, q3.trans g5, q4.trans g6, q5.trans g7, fun k hk => by rw [s3 5 (by decide)]; exact g8 k hk, fun k hk => by rw [s3 18 (by decide)]; exact g9 k hk⟩, fun j hj => ?_⟩
  obtain ⟨hc, hx, hl⟩ := hT j hj
  refine ⟨?_, ?_, ?_⟩
  · unfold RelC
    rw [s3 0 (by decide), s3 1 (by decide), s3 2 (by decide), s3 3 (by decide), s3 6 (by decide), s3 7 (by decide), s3 8 (by decide), s3 9 (by decide), s3 10 (by decide), s3 11 (by decide), s3 12 (by decide), s3 13 (by decide), s3 14 (by decide), s3 16 (by decide), s3 17 (by decide)]
    exact hc
  · unfold RelX
    rw [s3 4 (by decide), ht]
    exact hx
  · rw [ltI_15, if_pos hj, jlM_T, ht, jlT_step, hl]
    have e := ltK_ct (N := N2) (i := j) (b := j * 8) (nA N2 10 j).toNat 0 (jlT (mTs M2 j) (mTd M2 j) ti)
    rw [Nat.add_zero] at e
    rw [e, hc.2.2.2.1.1]
    congr 1
    refine ctF_congr _ _ (fun k _ hk => ?_)
    have := hn j hj
    rw [hc.2.2.2.1.2 k (by omega), hc.1.2.2.1, g2, ht]
theorem RelX_to {M M2 : CsM} {N N2 : MoM} {j : Nat} {lo hi : Int} (h : RelX M N j lo hi) (e1 : mTs M2 j = mTs M j) (e2 : dNxt (mTd M2 j) = dNxt (mTd M j)) (e3 : nA N2 4 = nA N 4) : RelX M2 N2 j lo hi := by
  unfold RelX
  rw [e1, e2, e3]
  exact h
theorem relW_idle {M : CsM} {N : MoM} {ti : Int} (G : RelG M N) (ht : hTi (mHi M) = ti) (T : ∀ j, j < mN M → RelC M N j ∧ RelX M N j (ti + 1) (ti + 1 + sPer (mTs M j)) ∧ nA N 15 j = jlM M j) : RelW (setHi M (hiP (mHi M) (-3))) (uvB (uvA N (-1)) (-1)) ti := by
  obtain ⟨g1, g2, g3, g4, g5, g6, g7, g8, g9⟩ := G
  refine ⟨⟨g1, ?_, ?_, ?_, rfl, ?_, g7, g8, fun k hk => ?_⟩, ?_, fun j hj => ?_⟩
  · show nTi N + 1 = hTi (mHi M) + 1; rw [g2]
  · show nId N + 1 = hId (mHi M) + 1; rw [g3]
  · exact g4
  · exact g6
  · show va_up (nA N 18) (nTi N % 64).toNat (-3) k = va_up (hOf (mHi M)) (hTi (mHi M) % 64).toNat (-3) k
    rw [g2]
    by_cases q : k = (hTi (mHi M) % 64).toNat
    · rw [q, va_up_s, va_up_s]
    · rw [va_up_n _ _ q, va_up_n _ _ q]; exact g9 k hk
  · show hTi (mHi M) + 1 = ti + 1; rw [ht]
  · obtain ⟨hc, hx, hl⟩ := T j hj
    refine ⟨RelC_hi hc (fun k h1 h2 => ?_), RelX_to hx rfl rfl rfl, ?_⟩
    · exact va_up_n (nA N) _ h2
    · show nA N 15 j = jlT (mTs M j) (mTd M j) ti
      rw [hl, jlM_T, ht]
theorem relW_work {M : CsM} {N : MoM} {ti tb : Int} {t : Nat} (G : RelG M N) (ht : hTi (mHi M) = ti) (T : ∀ j, j < mN M → RelC M N j ∧ RelX M N j (ti + 1) (ti + 1 + sPer (mTs M j)) ∧ nA N 15 j = jlM M j) (I : CsI M tb) (hm : t < mN M) (hd : dNd (mTd M t) ≠ 0) : RelW (updTd (setHi M (hiP (mHi M) (t : Int))) t (duD (mTs M t) (mTd M t) (ti + 1))) (uvB (uvA N (t : Int)) (t : Int)) ti := by
  obtain ⟨g1, g2, g3, g4, g5, g6, g7, g8, g9⟩ := id G
  have n0 : ¬ (t : Int) < 0 := by omega
  have eA : uvA N (t : Int) = wkM N t := if_neg n0
  have eL : (if (t : Int) < 0 then (-3 : Int) else (t : Int)) = (t : Int) := if_neg n0
  obtain ⟨w1, w2, w3, w4⟩ := wkM_r N t
  obtain ⟨v1, v2⟩ := wkM_same N t
  have k18 := wkM_k N t (k := 18) (by decide) (by decide) (by decide) (by decide) (by decide)
  have k5 := wkM_k N t (k := 5) (by decide) (by decide) (by decide) (by decide) (by decide)
  have k15 := wkM_k N t (k := 15) (by decide) (by decide) (by decide) (by decide) (by decide)
  have k4 := wkM_k N t (k := 4) (by decide) (by decide) (by decide) (by decide) (by decide)
  rw [eA]
  refine ⟨⟨v1.trans g1, ?_, w1.trans g3, ?_, eL, ?_, w4.trans g7, fun k hk => ?_, fun k hk => ?_⟩, ?_, fun j hj => ?_⟩
  · show nTi (wkM N t) + 1 = hTi (mHi M) + 1; rw [v2, g2]
  · show nSw (wkM N t) = (if (t : Int) = -3 ∨ (t : Int) = hLn (mHi M) then hSw (mHi M) else hSw (mHi M) + 1)
    rw [w2, g6, g4]
    by_cases q : (t : Int) = hLn (mHi M)
    · have e1 : (t : Int) = if hLn (mHi M) = -3 then -1 else hLn (mHi M) := by rw [← q, if_neg (by omega)]
      have e2 : (t : Int) = -3 ∨ (t : Int) = hLn (mHi M) := Or.inr q
      rw [if_pos e1, if_pos e2]
    · have e1 : ¬ (t : Int) = if hLn (mHi M) = -3 then -1 else hLn (mHi M) := by split <;> omega
      have e2 : ¬ ((t : Int) = -3 ∨ (t : Int) = hLn (mHi M)) := by omega
      rw [if_neg e1, if_neg e2]
  · show nBu (wkM N t) = if (if (t : Int) = -3 then hLn (mHi M) else (t : Int)) = -3 then -1 else (if (t : Int) = -3 then hLn (mHi M) else (t : Int))
    rw [w3, if_neg (by omega : ¬ (t : Int) = -3), if_neg (by omega : ¬ (t : Int) = -3)]
  · show nA (wkM N t) 5 k = mCe M k
    rw [k5]; exact g8 k hk
  · show va_up (nA (wkM N t) 18) (nTi (wkM N t) % 64).toNat (if (t : Int) < 0 then -3 else (t : Int)) k = va_up (hOf (mHi M)) (hTi (mHi M) % 64).toNat (t : Int) k
    rw [k18, v2, g2, eL]
    by_cases q : k = (hTi (mHi M) % 64).toNat
    · rw [q, va_up_s, va_up_s]
    · rw [va_up_n _ _ q, va_up_n _ _ q]; exact g9 k hk
  · show hTi (mHi M) + 1 = ti + 1; rw [ht]
  · obtain ⟨hc, hx, hl⟩ := T j hj
    have hk := I.2.2.2.2.2.2 j hj
    have kn := hk.2.2.2.2.2.2.2.2.1
    have eB : ∀ k, k ≠ 18 → nA (uvB (wkM N t) (t : Int)) k = nA (wkM N t) k := fun k hk => va_up_n (nA (wkM N t)) _ hk
    have toB : ∀ {M' : CsM}, RelC M' (wkM N t) j → RelC M' (uvB (wkM N t) (t : Int)) j := fun {M'} z => RelC_hi (H := mHi M') z (fun k _ h2 => eB k h2)
    have hx' : nA (uvB (wkM N t) (t : Int)) 4 = nA N 4 := (eB 4 (by decide)).trans k4
    by_cases q : j = t
    · subst q
      refine ⟨toB (RelC_wk hc (by rw [g2, ht]) ⟨by omega, kn.2⟩ hk.2.2.2.2.2.2.2.1), RelX_to hx rfl (by rw [mTd_upd]; rfl) hx', ?_⟩
      rw [mTd_upd, eB 15 (by decide), k15]
      show nA N 15 j = jlT (mTs M j) (duD (mTs M j) (mTd M j) (ti + 1)) ti
      rw [jlT_du (by omega) hk.2.2.2.2.2.2.2.1, hl, jlM_T, ht]
    · refine ⟨toB (RelC_wn (RelC_hi hc (fun k _ _ => rfl)) q kn.2 hk.2.2.2.2.1), RelX_to hx rfl (by rw [mTd_upn _ _ q]; rfl) hx', ?_⟩
      rw [mTd_upn _ _ q, eB 15 (by decide), k15]
      show nA N 15 j = jlT (mTs M j) (mTd M j) ti
      rw [hl, jlM_T, ht]
theorem RelZ_pu {M : CsM} {N : MoM} (hs : mSt M = true) (n : Nat) (Z : RelZ M N) (G : RelG M N) (hn : n ≤ mN M) {M2 : CsM} (e1 : mN M2 = mN M) (e2 : mSt M2 = mSt M) {r : Int} (hr : r = -1 ∨ ∃ u : Nat, u < nTa N ∧ r = (u : Int)) : RelZ M2 (ltI (uvB (uvA N r) r) n) := by
  obtain ⟨s1, s2, s3⟩ := ltI_same (uvB (uvA N r) r) n
  have eB : ∀ k, k ≠ 18 → nA (uvB (uvA N r) r) k = nA (uvA N r) k := fun k hk => va_up_n (nA (uvA N r)) _ hk
  have z17 : nA (uvA N r) 17 = nA N 17 ∧ nTi (uvA N r) = nTi N := by
    refine ⟨?_, (uvA_same N r).2⟩
    rcases hr with z | ⟨u, -, z⟩
    · rw [z]; rfl
    · have eA : uvA N r = wkM N u := by rw [z]; exact if_neg (by omega)
      rw [eA]; exact wkM_k N u (by decide) (by decide) (by decide) (by decide) (by decide)
  refine ⟨(fun q => absurd (q.symm.trans (e2.trans hs)) (by decide)), fun k => ?_, fun i hi => ?_⟩
  · rw [s3 17 (by decide), eB 17 (by decide), z17.1, s2]
    show 0 ≤ nA N 17 k ∧ nA N 17 k ≤ nTi (uvA N r) + 1
    rw [z17.2]
    have := Z.2.1 k
    omega
  · have hi' : mN M ≤ i := by rw [e1] at hi; exact hi
    have hz := Z.2.2 i hi'
    have hk : ∀ k, k ≠ 11 → k ≠ 18 → nA (uvB (uvA N r) r) k i = nA N k i := fun k h1 h2 => by
      rw [eB k h2]
      rcases hr with z | ⟨u, zu, z⟩
      · rw [z]; rfl
      · have eA : uvA N r = wkM N u := by rw [z]; exact if_neg (by omega)
        rw [eA]
        have := G.1
        exact (wkM_at N (by omega : i ≠ u)).1 k h1
    rw [s3 6 (by decide), s3 10 (by decide), s3 12 (by decide), s3 13 (by decide), s3 14 (by decide), s3 16 (by decide), ltI_15, if_neg (by omega), hk 6 (by decide) (by decide), hk 10 (by decide) (by decide), hk 12 (by decide) (by decide), hk 13 (by decide) (by decide), hk 14 (by decide) (by decide), hk 15 (by decide) (by decide), hk 16 (by decide) (by decide)]
    exact hz
theorem pu_eq {M : CsM} {N : MoM} {tb : Int} (h : RR M N tb) (hst : mSt M = true) (hs : stM M = false) (hl : hTi (mHi M) < tb) : RR (puM M) (uvM N) tb := by
  obtain ⟨hR, hZ, hI, hJ⟩ := h
  obtain ⟨G, Z, T⟩ := relI hR hZ hI hs (mN M) (Nat.le_refl _)
  obtain ⟨g1, g2, g3, g4, g5, g6, g7⟩ := rlI_same M (mN M)
  have I1 := CsI_rlI hI hs (mN M) (Nat.le_refl _)
  have I2 := CsI_puM hI hs hl
  have hus : usM N = false := by rw [usM_eq hR hI]; exact hs
  have J2 := MoI_uvM hJ hus (by rw [hR.1.2.1]; exact hl)
  have T1 : ∀ j, j < mN (rlI M (mN M)) → RelC (rlI M (mN M)) (luI N (mN M)) j ∧ RelX (rlI M (mN M)) (luI N (mN M)) j (hTi (mHi M) + 1) (hTi (mHi M) + 1 + sPer (mTs (rlI M (mN M)) j)) ∧ nA (luI N (mN M)) 15 j = jlM (rlI M (mN M)) j := fun j hj => by
    rw [g1] at hj
    have := T j hj
    rw [if_pos hj] at this
    rw [g2]
    exact this
  have hru := ruM_eq G (fun i hi => (T1 i hi).1) I1
  obtain ⟨p1, p2, p3, p4, p5, p6, p7⟩ := puM_same M
  have hnTa : nTa (luI N (mN M)) = mN M := by rw [(luI_same N (mN M)).1]; exact hR.1.1
  have eU : uvM N = ltI (uvB (uvA (luI N (mN M)) (ruM (luI N (mN M)))) (ruM (luI N (mN M)))) (mN M) := by
    unfold uvM uvR
    rw [hR.1.1, hnTa]
  have hrs : ruM (luI N (mN M)) = -1 ∨ ∃ u : Nat, u < nTa (luI N (mN M)) ∧ ruM (luI N (mN M)) = (u : Int) := (ruM_spec _).elim Or.inl (fun ⟨u, z1, z2, _⟩ => Or.inr ⟨u, z1, z2⟩)
  have Z2 : RelZ (puM M) (uvM N) := by
    rw [eU]
    exact RelZ_pu (M := rlI M (mN M)) (by rw [g7]; exact hst) (mN M) Z G (by rw [g1]; exact Nat.le_refl _) (by rw [p1, g1]) (by rw [p6, g7]) hrs
  refine ⟨?_, Z2, I2, J2⟩
  have W : RelW (puM M) (uvB (uvA (luI N (mN M)) (ruM (luI N (mN M)))) (ruM (luI N (mN M)))) (hTi (mHi M)) := by
    rcases chM_spec (rlI M (mN M)) with z | ⟨b, z1, z2, z3⟩
    · have er : ruM (luI N (mN M)) = -1 := by rw [hru, if_pos z]
      have ep : puM M = setHi (rlI M (mN M)) (hiP (mHi (rlI M (mN M))) (-3)) := by
        unfold puM
        rw [if_pos z]
        unfold puA
        rw [z]
      rw [er, ep]
      exact relW_idle G (by rw [g6]) T1
    · have er : ruM (luI N (mN M)) = (b : Int) := by rw [hru, z2, if_neg (by omega)]
      have ep : puM M = updTd (setHi (rlI M (mN M)) (hiP (mHi (rlI M (mN M))) (b : Int))) b (duD (mTs (rlI M (mN M)) b) (mTd (rlI M (mN M)) b) (hTi (mHi M) + 1)) := by
        unfold puM
        rw [if_neg (by rw [z2]; omega)]
        unfold puA
        rw [z2]
        show updTd _ b (duD (mTs (rlI M (mN M)) b) (mTd (rlI M (mN M)) b) (hTi (mHi (rlI M (mN M))) + 1)) = _
        rw [g6]
      rw [er, ep]
      exact relW_work G (by rw [g6]) T1 I1 z1 z3
  have := rel_lt W (fun j hj => (I2.2.2.2.2.2.2 j hj).2.2.2.2.2.2.2.2.1.1)
  rw [p1] at this
  rw [eU]
  exact this
theorem tk_F {tb : Int} : ∀ (f : Nat) {M : CsM} {N : MoM}, RR M N tb → mSt M = true → hTi (mHi M) + (f : Int) ≤ tb → (tkF f M).1 = (tmF f N).1 ∧ RR (tkF f M).2 (tmF f N).2 tb
  | 0, _, _, h, _, _ => ⟨rfl, h⟩
  | f + 1, M, N, h, hst, ht => by
    have e := usM_eq h.1 h.2.2.1
    rw [tkF, tmF, e]
    by_cases c : stM M = true
    · rw [if_pos c, if_pos c]; exact ⟨rfl, h⟩
    · have c' : stM M = false := by cases q : stM M with | false => rfl | true => exact absurd q c
      rw [if_neg c, if_neg c]
      have h1 := pu_eq h hst c' (by omega)
      obtain ⟨p1, p2, p3, p4, p5, p6, p7⟩ := puM_same M
      obtain ⟨a1, a2⟩ := tk_F f h1 (by rw [p6]; exact hst) (by rw [p7]; omega)
      exact ⟨by rw [a1], a2⟩
theorem tk_eq {M : CsM} {N : MoM} {tb : Int} (h : RR M N tb) (ht : hTi (mHi M) + 200 ≤ tb) (n : Int) : tkR M n = tnR N n ∧ RR (tkM M n) (tnS N n) tb := by
  have hst := h.1.1.2.2.2.2.2.2.1
  unfold tkR tnR tkM tnS
  rw [hst]
  by_cases c : mSt M = false ∨ (n < 1 ∨ 200 < n)
  · have c' := c.symm
    rw [if_pos c, if_pos c, if_pos c', if_pos c']
    exact ⟨rfl, h⟩
  · have c1 : ¬ (n < 1 ∨ 200 < n) := fun z => c (Or.inr z)
    have c2 : mSt M = true := by cases q : mSt M with | true => rfl | false => exact absurd (Or.inl q) c
    have c' : ¬ ((n < 1 ∨ 200 < n) ∨ mSt M = false) := fun z => c z.symm
    rw [if_neg c, if_neg c, if_neg c', if_neg c']
    obtain ⟨a1, a2⟩ := tk_F n.toNat h c2 (by omega)
    rw [a1]
    exact ⟨rfl, a2⟩
theorem tkF_ti : ∀ (f : Nat) (M : CsM), hTi (mHi (tkF f M).2) ≤ hTi (mHi M) + (f : Int)
  | 0, M => by show hTi (mHi M) ≤ _; omega
  | f + 1, M => by
    rw [tkF]
    by_cases c : stM M = true
    · rw [if_pos c]; show hTi (mHi M) ≤ _; omega
    · rw [if_neg c]
      have := tkF_ti f (puM M)
      rw [(puM_same M).2.2.2.2.2.2] at this
      show hTi (mHi (tkF f (puM M)).2) ≤ _
      omega
theorem tkM_ti (M : CsM) (n : Int) : hTi (mHi (tkM M n)) ≤ hTi (mHi M) + 200 := by
  unfold tkM
  split
  · omega
  · rename_i c
    have c1 : ¬ (n < 1 ∨ 200 < n) := fun z => c (Or.inr z)
    have := tkF_ti n.toNat M
    omega
theorem evM_ti (M : CsM) (v : Int) : hTi (mHi (evM M v)) = hTi (mHi M) := by unfold evM; split <;> rfl
theorem srM_ti (M : CsM) : hTi (mHi (srM M)) = hTi (mHi M) := by unfold srM; split <;> rfl
theorem ceM_ti (M : CsM) (o c : Int) : hTi (mHi (ceM M o c)) = hTi (mHi M) := by unfold ceM; split <;> rfl
theorem scM_ti (M : CsM) (v o x y : Int) : hTi (mHi (scM M v o x y)) = hTi (mHi M) := by unfold scM; split <;> rfl
theorem dfM_ti (M : CsM) (p c d r o : Int) : hTi (mHi (dfM M p c d r o)) = hTi (mHi M) := by unfold dfM; split <;> rfl
theorem rr_init {tb : Int} (h0 : 0 ≤ tb) (h1 : tb ≤ 300000) : RR csM0 moN0 tb := by
  refine ⟨⟨⟨rfl, rfl, rfl, rfl, rfl, rfl, rfl, fun k hk => rfl, fun k hk => rfl⟩, fun i hi => absurd hi (Nat.not_lt_zero _)⟩, ⟨fun _ => rfl, fun k => ⟨Int.le_refl _, Int.le_refl _⟩, fun i _ => ⟨rfl, rfl, rfl, rfl, rfl, rfl, rfl⟩⟩, ⟨h1, Nat.zero_le _, ⟨Int.le_refl _, h0⟩, ?_, ?_, fun k => ?_, fun i hi => absurd hi (Nat.not_lt_zero _)⟩, ⟨h1, Nat.zero_le _, ⟨Int.le_refl _, h0⟩, ?_, ?_, fun k => ?_, fun k => ?_, fun k => ?_, fun k => ?_, fun k => ⟨Int.le_refl _, h0⟩, fun i hi => absurd hi (Nat.not_lt_zero _)⟩⟩
  · show (-3 : Int) ≤ -3 ∧ (-3 : Int) ≤ 6; decide
  · show (-3 : Int) ≤ -3 ∧ (-3 : Int) ≤ 6; decide
  · show (1 : Int) ≤ 10 ∧ (10 : Int) ≤ 10; decide
  · show (-3 : Int) ≤ -3 ∧ (-3 : Int) ≤ 6; decide
  · show (-1 : Int) ≤ -1 ∧ (-1 : Int) ≤ 6; decide
  · show (1 : Int) ≤ 10 ∧ (10 : Int) ≤ 10; decide
  · show (0 : Int) ≤ 0 ∧ (0 : Int) ≤ 3; decide
  · show (0 : Int) ≤ 0 ∧ (0 : Int) ≤ 59; decide
  · show (0 : Int) ≤ 0 ∧ (0 : Int) ≤ 60; decide
