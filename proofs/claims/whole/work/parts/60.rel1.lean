/-! The two states say the same -/
/-- what the arrays say of a task, but for its next release and its late jobs -/
def RelC (M : CsM) (N : MoM) (i : Nat) : Prop :=
  (nA N 0 i = sPer (mTs M i) ∧ nA N 1 i = sCst (mTs M i) ∧ nA N 2 i = sDdl (mTs M i) ∧ nA N 3 i = sPri (mTs M i)) ∧
  (nA N 6 i = (mNs M i : Int) ∧ ∀ j, j < mNs M i → nA N 7 (i * 3 + j) = (mSc M i j).1 ∧ nA N 8 (i * 3 + j) = (mSc M i j).2.1 ∧ nA N 9 (i * 3 + j) = (mSc M i j).2.2) ∧
  (∀ j k, j < mNs M i → k < mNs M i → j ≠ k → (mSc M i j).2.1 + (mSc M i j).2.2 ≤ (mSc M i k).2.1 ∨ (mSc M i k).2.1 + (mSc M i k).2.2 ≤ (mSc M i j).2.1) ∧
  (nA N 10 i = dNd (mTd M i) ∧ ∀ k : Nat, (k : Int) < dNd (mTd M i) → nA N 11 (i * 8 + k) = dRel (mTd M i) ((dFr (mTd M i) + (k : Int)) % 8).toNat) ∧
  nA N 12 i = dUf (mTd M i) ∧ nA N 13 i = dRl (mTd M i) ∧ nA N 14 i = dRl (mTd M i) - dNd (mTd M i) ∧ nA N 16 i = dGr (mTd M i) ∧ (0 < dRl (mTd M i) → nA N 17 i = dLr (mTd M i)) ∧
  (dNd (mTd M i) = 0 → dUf (mTd M i) = 0)
/-- the next release: between lo and hi, or the first -/
def RelX (M : CsM) (N : MoM) (i : Nat) (lo hi : Int) : Prop :=
  (sSpo (mTs M i) = true → nA N 4 i = -1) ∧ (sSpo (mTs M i) = false → 0 ≤ nA N 4 i ∧ nA N 4 i ≤ dNxt (mTd M i) ∧ (dNxt (mTd M i) - nA N 4 i) % sPer (mTs M i) = 0 ∧ lo ≤ dNxt (mTd M i) ∧ (dNxt (mTd M i) = nA N 4 i ∨ dNxt (mTd M i) < hi))
def RelG (M : CsM) (N : MoM) : Prop :=
  nTa N = mN M ∧ nTi N = hTi (mHi M) ∧ nId N = hId (mHi M) ∧ nSw N = hSw (mHi M) ∧ nLa N = hLr (mHi M) ∧ nBu N = (if hLn (mHi M) = -3 then -1 else hLn (mHi M)) ∧ nSt N = mSt M ∧ (∀ k, k < 4 → nA N 5 k = mCe M k) ∧ ∀ k, k < 64 → nA N 18 k = hOf (mHi M) k
def Rel (M : CsM) (N : MoM) : Prop :=
  RelG M N ∧ ∀ i, i < mN M → RelC M N i ∧ RelX M N i (hTi (mHi M)) (hTi (mHi M) + sPer (mTs M i)) ∧ nA N 15 i = jlM M i
/-- the section with a unit in it, and what is held -/
theorem saF_hd {M : CsM} {N : MoM} {t : Nat} {u : Int} (hs : ∀ j, j < mNs M t → nA N 7 (t * 3 + j) = (mSc M t j).1 ∧ nA N 8 (t * 3 + j) = (mSc M t j).2.1 ∧ nA N 9 (t * 3 + j) = (mSc M t j).2.2)
    (hd : ∀ j k, j < mNs M t → k < mNs M t → j ≠ k → (mSc M t j).2.1 + (mSc M t j).2.2 ≤ (mSc M t k).2.1 ∨ (mSc M t k).2.1 + (mSc M t k).2.2 ≤ (mSc M t j).2.1) :
    ∀ (f j : Nat), j + f = mNs M t →
      (saF N u f (t * 3 + j) = -1 ∧ hdO (mSc M t) u f j = -3) ∨
      ∃ k, j ≤ k ∧ k < mNs M t ∧ saF N u f (t * 3 + j) = ((t * 3 + k : Nat) : Int) ∧ (mSc M t k).2.1 ≤ u ∧ u < (mSc M t k).2.1 + (mSc M t k).2.2 ∧ hdO (mSc M t) u f j = (if (mSc M t k).2.1 < u then (mSc M t k).1 else -3)
  | 0, _, _ => Or.inl ⟨rfl, rfl⟩
  | f + 1, j, h => by
    obtain ⟨h7, h8, h9⟩ := hs j (by omega)
    rw [saF, hdO, h8, h9]
    by_cases c : (mSc M t j).2.1 ≤ u ∧ u < (mSc M t j).2.1 + (mSc M t j).2.2
    · rw [if_pos c]
      refine Or.inr ⟨j, Nat.le_refl _, by omega, rfl, c.1, c.2, ?_⟩
      by_cases c2 : (mSc M t j).2.1 < u
      · rw [if_pos ⟨c2, c.2⟩, if_pos c2]
      · rw [if_neg (fun q => c2 q.1), if_neg c2]
        rcases saF_hd hs hd f (j + 1) (by omega) with z | ⟨k, z1, z2, z3, z4, z5, z6⟩
        · exact z.2
        · have := hd j k (by omega) z2 (by omega)
          omega
    · rw [if_neg c, if_neg (fun q => c ⟨by omega, q.2⟩)]
      rcases saF_hd hs hd f (j + 1) (by omega) with z | ⟨k, z1, z2, z3⟩
      · exact Or.inl z
      · exact Or.inr ⟨k, by omega, z2, z3⟩
theorem heM_eq {M : CsM} {N : MoM} {t : Nat} (h : RelC M N t) (hr : ∀ j, j < mNs M t → 0 ≤ (mSc M t j).1 ∧ (mSc M t j).1 ≤ 3 ∧ 0 ≤ (mSc M t j).2.1 ∧ (mSc M t j).2.1 ≤ 59 ∧ 1 ≤ (mSc M t j).2.2 ∧ (mSc M t j).2.2 ≤ 60) (hn : 0 ≤ dNd (mTd M t)) : heM N t = if hdM M t = -3 then -1 else hdM M t := by
  obtain ⟨-, ⟨h6, hs⟩, hd, ⟨h10, -⟩, h12, -, -, -, -, h0⟩ := h
  have hk := saF_hd (u := nA N 12 t) hs hd (mNs M t) 0 (by omega)
  have e6 : (nA N 6 t).toNat = mNs M t := by rw [h6]; exact Int.toNat_natCast _
  have eS : saM N t (nA N 12 t) = saF N (nA N 12 t) (mNs M t) (t * 3 + 0) := by unfold saM; rw [e6]; rfl
  have eH : hdM M t = hdO (mSc M t) (nA N 12 t) (mNs M t) 0 := by unfold hdM; rw [h12]
  unfold heM heK
  by_cases c : 0 < nA N 10 t
  · rw [if_pos c, eS, eH]
    rcases hk with ⟨z1, z2⟩ | ⟨k, z1, z2, z3, z4, z5, z6⟩
    · rw [z1, z2, if_neg (fun q => by omega), if_pos rfl]
    · rw [z3, z6]
      have e8 : nA N 8 ((t * 3 + k : Nat) : Int).toNat = (mSc M t k).2.1 := (hs k z2).2.1
      have e7 : nA N 7 ((t * 3 + k : Nat) : Int).toNat = (mSc M t k).1 := (hs k z2).1
      rw [e8, e7]
      have := hr k z2
      by_cases c2 : (mSc M t k).2.1 < nA N 12 t
      · rw [if_pos ⟨by omega, c2⟩, if_pos c2, if_neg (by omega)]
      · rw [if_neg (fun q => c2 q.2), if_neg c2, if_pos rfl]
  · rw [if_neg c, if_neg (fun q => by omega)]
    have hz : dNd (mTd M t) = 0 := by omega
    have hu : nA N 12 t = 0 := by rw [h12]; exact h0 hz
    rw [eH]
    rcases hk with ⟨z1, z2⟩ | ⟨k, z1, z2, z3, z4, z5, z6⟩
    · rw [z2, if_pos rfl]
    · have := hr k z2
      have e : hdO (mSc M t) (nA N 12 t) (mNs M t) 0 = -3 := by rw [z6, if_neg (by omega)]
      rw [e, if_pos rfl]
theorem anM_eq {M : CsM} {N : MoM} {t : Nat} (h : RelC M N t) (hr : ∀ j, j < mNs M t → 0 ≤ (mSc M t j).1 ∧ (mSc M t j).1 ≤ 3 ∧ 0 ≤ (mSc M t j).2.1 ∧ (mSc M t j).2.1 ≤ 59 ∧ 1 ≤ (mSc M t j).2.2 ∧ (mSc M t j).2.2 ≤ 60) (hn : 0 ≤ dNd (mTd M t)) (hc : ∀ k, k < 4 → nA N 5 k = mCe M k) : anM N t = acP M t := by
  have he := heM_eq h hr hn
  have h3 := h.1.2.2.2
  have hg := hdM_rng M t hr
  unfold anM acP
  by_cases c : hdM M t = -3
  · rw [he, if_pos c, if_neg (fun q => by omega), if_pos c, h3]
  · rw [he, if_neg c, if_neg c, h3, hc (hdM M t).toNat (by omega)]
    by_cases c2 : sPri (mTs M t) < mCe M (hdM M t).toNat
    · rw [if_pos ⟨by omega, c2⟩, Int.max_eq_right (by omega)]
    · rw [if_neg (fun q => c2 q.2), Int.max_eq_left (by omega)]
