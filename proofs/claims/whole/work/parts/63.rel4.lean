/-! What is so before the start, and of tasks that are not there yet -/
def RelZ (M : CsM) (N : MoM) : Prop :=
  (mSt M = false → hTi (mHi M) = 0) ∧ (∀ k, 0 ≤ nA N 17 k ∧ nA N 17 k ≤ nTi N) ∧
  ∀ i, mN M ≤ i → nA N 6 i = 0 ∧ nA N 10 i = 0 ∧ nA N 12 i = 0 ∧ nA N 13 i = 0 ∧ nA N 14 i = 0 ∧ nA N 15 i = 0 ∧ nA N 16 i = 0
def RR (M : CsM) (N : MoM) (tb : Int) : Prop := Rel M N ∧ RelZ M N ∧ CsI M tb ∧ MoI N tb
theorem sr_eq {M : CsM} {N : MoM} {tb : Int} (h : RR M N tb) : srR M = snR N ∧ RR (srM M) (snM N) tb := by
  obtain ⟨hR, hZ, hI, hJ⟩ := h
  have e : srR M = snR N := by unfold srR snR; rw [hR.1.1, hR.1.2.2.2.2.2.2.1]
  refine ⟨e, ?_⟩
  unfold srM snM
  rw [e]
  by_cases c : snR N = 0
  · rw [if_pos c, if_pos c]
    obtain ⟨⟨g1, g2, g3, g4, g5, g6, g7, g8, g9⟩, hT⟩ := hR
    exact ⟨⟨⟨g1, g2, g3, g4, g5, g6, rfl, g8, g9⟩, hT⟩, ⟨(fun q => nomatch (q : true = false)), hZ.2.1, hZ.2.2⟩, hI, hJ⟩
  · rw [if_neg c, if_neg c]
    exact ⟨hR, hZ, hI, hJ⟩
theorem cnI_eq {M : CsM} {N : MoM} {i : Nat} (hs : ∀ j, j < mNs M i → nA N 7 (i * 3 + j) = (mSc M i j).1 ∧ nA N 8 (i * 3 + j) = (mSc M i j).2.1 ∧ nA N 9 (i * 3 + j) = (mSc M i j).2.2) (h3 : nA N 3 i = sPri (mTs M i)) {ob c : Int} : ∀ (f j : Nat), j + f = mNs M i → (cnI N i ob c f (i * 3 + j) = true ↔ hsO (mSc M i) ob f j = true ∧ c < sPri (mTs M i))
  | 0, _, _ => ⟨fun q => (by cases q), fun q => (by cases q.1)⟩
  | f + 1, j, h => by
    have ih := cnI_eq hs h3 (ob := ob) (c := c) f (j + 1) (by omega)
    rw [cnI, hsO, (hs j (by omega)).1, h3]
    by_cases c1 : (mSc M i j).1 = ob
    · rw [if_pos c1]
      by_cases c2 : c < sPri (mTs M i)
      · rw [if_pos ⟨c1, c2⟩]; exact ⟨fun _ => ⟨rfl, c2⟩, fun _ => rfl⟩
      · rw [if_neg (fun q => c2 q.2)]
        exact ⟨fun q => absurd (ih.mp q).2 c2, fun q => absurd q.2 c2⟩
    · rw [if_neg c1, if_neg (fun q => c1 q.1)]
      exact ih
theorem cnF_eq {M : CsM} {N : MoM} (hR : Rel M N) {ob c : Int} : ∀ (f i : Nat) (k : Int), i + f = mN M → (c < gpF M ob f i k ↔ c < k ∨ cnF N ob c f i = true)
  | 0, _, _, _ => ⟨Or.inl, fun q => q.elim id (fun z => by cases z)⟩
  | f + 1, i, k, h => by
    obtain ⟨hc, -, -⟩ := hR.2 i (by omega)
    have e6 : (nA N 6 i).toNat = mNs M i := by rw [hc.2.1.1]; exact Int.toNat_natCast _
    have ei := cnI_eq hc.2.1.2 hc.1.2.2.2 (ob := ob) (c := c) (mNs M i) 0 (by omega)
    rw [Nat.add_zero] at ei
    rw [gpF, cnF, e6, cnF_eq hR f (i + 1) _ (by omega)]
    by_cases c1 : cnI N i ob c (mNs M i) (i * 3) = true
    · rw [if_pos c1, if_pos (ei.mp c1).1]
      have := (ei.mp c1).2
      exact ⟨fun _ => Or.inr rfl, fun _ => Or.inl (by omega)⟩
    · rw [if_neg c1]
      by_cases c2 : hsO (mSc M i) ob (mNs M i) 0 = true
      · have c3 : ¬ c < sPri (mTs M i) := fun q => c1 (ei.mpr ⟨c2, q⟩)
        rw [if_pos c2]
        have : c < max k (sPri (mTs M i)) ↔ c < k := by omega
        rw [this]
      · rw [if_neg c2]
theorem ce_eq {M : CsM} {N : MoM} {tb : Int} (h : RR M N tb) (o c : Int) : ceR M o c = cnR N o c ∧ RR (ceM M o c) (cnN N o c) tb := by
  obtain ⟨hR, hZ, hI, hJ⟩ := h
  have hst := hR.1.2.2.2.2.2.2.1
  have e : ceR M o c = cnR N o c := by
    unfold ceR cnR
    rw [hst, hR.1.1]
    by_cases c1 : (o < 0 ∨ 3 < o) ∨ (c < 1 ∨ 10 < c) ∨ mSt M = true
    · rw [if_pos c1, if_pos (by rcases c1 with z | z | z <;> simp [z])]
    · rw [if_neg c1]
      have hk : c < gpM M o ↔ c < 0 ∨ cnF N o c (mN M) 0 = true := cnF_eq hR (ob := o) (c := c) (mN M) 0 0 (by omega)
      by_cases c2 : cnF N o c (mN M) 0 = true
      · rw [if_pos c2, if_pos (Or.inr (Or.inr (Or.inr (hk.mpr (Or.inr c2)))))]
      · rw [if_neg c2, if_neg]
        rintro (z | z | z | z)
        · exact c1 (Or.inr (Or.inr z))
        · exact c1 (Or.inl z)
        · exact c1 (Or.inr (Or.inl z))
        · rcases hk.mp z with y | y
          · exact c1 (Or.inr (Or.inl (Or.inl (by omega))))
          · exact c2 y
  refine ⟨e, ?_⟩
  unfold ceM cnN
  by_cases c0 : cnR N o c = 0
  · rw [e, if_pos c0, if_pos c0]
    have hr : (0 ≤ o ∧ o ≤ 3) ∧ (1 ≤ c ∧ c ≤ 10) := by
      unfold cnR at c0
      by_cases c1 : (o < 0 ∨ 3 < o) ∨ (c < 1 ∨ 10 < c) ∨ nSt N = true
      · rw [if_pos c1] at c0; omega
      · have d1 : ¬ (o < 0 ∨ 3 < o) := fun z => c1 (Or.inl z)
        have d2 : ¬ (c < 1 ∨ 10 < c) := fun z => c1 (Or.inr (Or.inl z))
        omega
    obtain ⟨⟨g1, g2, g3, g4, g5, g6, g7, g8, g9⟩, hT⟩ := hR
    obtain ⟨i1, i2, i3, i4, i5, i6, i7⟩ := hI
    obtain ⟨a1, a2, a3, a4, a5, a6, a7⟩ := hJ
    refine ⟨⟨⟨g1, g2, g3, g4, g5, g6, g7, fun k hk => ?_, g9⟩, hT⟩, hZ, ⟨i1, i2, i3, i4, i5, ?_, i7⟩, ⟨a1, a2, a3, a4, a5, ?_, a7⟩⟩
    · show va_up (nA N 5) o.toNat c k = va_up (mCe M) o.toNat c k
      by_cases q : k = o.toNat
      · rw [q, va_up_s, va_up_s]
      · rw [va_up_n _ _ q, va_up_n _ _ q]; exact g8 k hk
    · exact rng_up (P := fun z => 1 ≤ z ∧ z ≤ 10) i6 hr.2
    · exact rng_up (P := fun z => 1 ≤ z ∧ z ≤ 10) a6 hr.2
  · rw [e, if_neg c0, if_neg c0]
    exact ⟨hR, hZ, hI, hJ⟩
