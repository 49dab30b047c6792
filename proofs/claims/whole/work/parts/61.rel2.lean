theorem frM_eq {M : CsM} {N : MoM} {i : Nat} (h : RelC M N i) (hf : 0 ≤ dFr (mTd M i) ∧ dFr (mTd M i) < 8) (hn : 0 < dNd (mTd M i)) : nA N 11 (i * 8) = frM M i := by
  have := h.2.2.2.1.2 0 (by omega)
  rw [Nat.add_zero] at this
  rw [this]
  unfold frM
  congr 1
  omega
theorem gnM_eq {M : CsM} {N : MoM} {tb : Int} (hG : RelG M N) (hC : ∀ i, i < mN M → RelC M N i) (hI : CsI M tb) {i j : Nat} (hi : i < mN M) (hj : j < i) (ni : 0 < dNd (mTd M i)) (nj : 0 < dNd (mTd M j)) : gnM N i j = gbM M i j := by
  obtain ⟨-, -, -, -, gL, -, -, gC, -⟩ := hG
  have ki := hI.2.2.2.2.2.2 i hi
  have kj := hI.2.2.2.2.2.2 j (by omega)
  have ri := hC i hi
  have rj := hC j (by omega)
  have rSi := ki.2.2.2.2.2.1
  have rSj := kj.2.2.2.2.2.1
  have ai := anM_eq ri rSi (by omega) gC
  have aj := anM_eq rj rSj (by omega) gC
  have ei := heM_eq ri rSi (by omega)
  have ej := heM_eq rj rSj (by omega)
  have gi := hdM_rng M i rSi
  have gj := hdM_rng M j rSj
  have fi := frM_eq ri ki.2.2.2.2.2.2.2.1 ni
  have fj := frM_eq rj kj.2.2.2.2.2.2.2.1 nj
  have hi' : 0 ≤ heM N i ↔ hdM M i ≠ -3 := by rw [ei]; split <;> omega
  have hj' : 0 ≤ heM N j ↔ hdM M j ≠ -3 := by rw [ej]; split <;> omega
  unfold gnM gbM
  rw [ai, aj, fi, fj, gL]
  by_cases c1 : acP M i ≠ acP M j
  · rw [if_pos c1, if_pos c1]
  · rw [if_neg c1, if_neg c1]
    by_cases c2 : (hdM M i = -3 ∧ hdM M j ≠ -3) ∨ (hdM M i ≠ -3 ∧ hdM M j = -3)
    · rw [if_pos c2, if_pos (by omega)]
      exact decide_eq_decide.mpr hi'
    · rw [if_neg c2, if_neg (by omega)]
      by_cases c3 : (i : Int) = hLr (mHi M) ∨ (j : Int) = hLr (mHi M)
      · rw [if_pos c3, if_pos c3]
      · rw [if_neg c3, if_neg c3]
        by_cases c4 : frM M i ≠ frM M j
        · rw [if_pos c4]
        · rw [if_neg c4]
          exact decide_eq_decide.mpr (by omega)
theorem ruF_eq {M : CsM} {N : MoM} {tb : Int} (hG : RelG M N) (hC : ∀ i, i < mN M → RelC M N i) (hI : CsI M tb) : ∀ (f i : Nat) (k r : Int), i + f = mN M → ((k = -3 ∧ r = -1) ∨ ∃ b : Nat, b < i ∧ k = (b : Int) ∧ r = (b : Int) ∧ 0 < dNd (mTd M b)) → ruF N f i r = if chF M f i k = -3 then -1 else chF M f i k
  | 0, i, k, r, _, h => by
    show r = if k = -3 then -1 else k
    rcases h with ⟨h1, h2⟩ | ⟨b, -, h1, h2, -⟩
    · rw [h1, h2]; rfl
    · rw [h1, h2, if_neg (by omega)]
  | f + 1, i, k, r, hi, h => by
    have hn : nA N 10 i = dNd (mTd M i) := (hC i (by omega)).2.2.2.1.1
    have kn := (hI.2.2.2.2.2.2 i (by omega)).2.2.2.2.2.2.2.2.1
    have e : ∃ k' r' : Int, (if dNd (mTd M i) ≠ 0 ∧ (k = -3 ∨ gbM M i k.toNat = true) then (i : Int) else k) = k' ∧ (if 0 < nA N 10 i ∧ (r < 0 ∨ gnM N i r.toNat = true) then (i : Int) else r) = r' ∧ ((k' = -3 ∧ r' = -1) ∨ ∃ b : Nat, b < i + 1 ∧ k' = (b : Int) ∧ r' = (b : Int) ∧ 0 < dNd (mTd M b)) := by
      rw [hn]
      by_cases c : 0 < dNd (mTd M i)
      · by_cases c2 : k = -3
        · have hr : r < 0 := by rcases h with ⟨-, z⟩ | ⟨b, -, z, -⟩ <;> omega
          exact ⟨i, i, if_pos ⟨by omega, Or.inl c2⟩, if_pos ⟨c, Or.inl hr⟩, Or.inr ⟨i, by omega, rfl, rfl, c⟩⟩
        · obtain ⟨b, b1, b2, b3, b4⟩ := h.resolve_left (fun z => c2 z.1)
          have eg : gnM N i r.toNat = gbM M i k.toNat := by rw [b2, b3]; exact gnM_eq hG hC hI (by omega) b1 c b4
          by_cases c3 : gbM M i k.toNat = true
          · exact ⟨i, i, if_pos ⟨by omega, Or.inr c3⟩, if_pos ⟨c, Or.inr (by rw [eg]; exact c3)⟩, Or.inr ⟨i, by omega, rfl, rfl, c⟩⟩
          · exact ⟨k, r, if_neg (fun q => q.2.elim c2 c3), if_neg (fun q => q.2.elim (fun z => by omega) (fun z => c3 (by rw [← eg]; exact z))), Or.inr ⟨b, by omega, b2, b3, b4⟩⟩
      · exact ⟨k, r, if_neg (fun q => by omega), if_neg (fun q => c q.1), h.elim Or.inl (fun ⟨b, b1, b2⟩ => Or.inr ⟨b, by omega, b2⟩)⟩
    obtain ⟨k', r', e1, e2, e3⟩ := e
    have z1 : chF M (f + 1) i k = chF M f (i + 1) k' := by rw [chF, e1]
    have z2 : ruF N (f + 1) i r = ruF N f (i + 1) r' := by rw [ruF, e2]
    rw [z1, z2]
    exact ruF_eq hG hC hI f (i + 1) k' r' (by omega) e3
theorem ruM_eq {M : CsM} {N : MoM} {tb : Int} (hG : RelG M N) (hC : ∀ i, i < mN M → RelC M N i) (hI : CsI M tb) : ruM N = if chM M = -3 then -1 else chM M := by
  unfold ruM chM
  rw [hG.1]
  exact ruF_eq hG hC hI (mN M) 0 (-3) (-1) (by omega) (Or.inl ⟨rfl, rfl⟩)
theorem coM_eq {M : CsM} {N : MoM} {i : Nat} (hp : 2 ≤ sPer (mTs M i)) (h0 : nA N 0 i = sPer (mTs M i)) (ht : nTi N = hTi (mHi M)) (hx : RelX M N i (hTi (mHi M)) (hTi (mHi M) + sPer (mTs M i))) : coM N i = decide (sSpo (mTs M i) = false ∧ dNxt (mTd M i) = hTi (mHi M)) := by
  unfold coM
  refine decide_eq_decide.mpr ?_
  rw [h0, ht]
  obtain ⟨x1, x2⟩ := hx
  cases hs : sSpo (mTs M i) with
  | true =>
    have := x1 hs
    exact ⟨fun q => by omega, fun q => by cases q.1⟩
  | false =>
    obtain ⟨y1, y2, y3, y4, y5⟩ := x2 hs
    constructor
    · rintro ⟨q1, q2, q3⟩
      refine ⟨rfl, ?_⟩
      rcases y5 with z | z
      · omega
      · have e1 : (dNxt (mTd M i) - hTi (mHi M)) % sPer (mTs M i) = 0 := by
          have : dNxt (mTd M i) - hTi (mHi M) = (dNxt (mTd M i) - nA N 4 i) - (hTi (mHi M) - nA N 4 i) := by omega
          rw [this, Int.sub_emod, y3, q3]; simp
        rw [Int.emod_eq_of_lt (by omega) (by omega)] at e1
        omega
    · rintro ⟨-, q⟩
      rw [← q]
      exact ⟨y1, y2, y3⟩
theorem usF_eq {M : CsM} {N : MoM} {tb : Int} (hR : Rel M N) (hI : CsI M tb) : ∀ (f i : Nat), i + f = mN M → usF N f i = stF M f i
  | 0, _, _ => rfl
  | f + 1, i, h => by
    have hk := hI.2.2.2.2.2.2 i (by omega)
    obtain ⟨hc, hx, -⟩ := hR.2 i (by omega)
    have e := coM_eq hk.1.1 hc.1.1 hR.1.2.1 hx
    have hn : nA N 10 i = dNd (mTd M i) := hc.2.2.2.1.1
    have kn := hk.2.2.2.2.2.2.2.2.1
    have r := usF_eq hR hI f (i + 1) (by omega)
    by_cases c : (sSpo (mTs M i) = false ∧ dNxt (mTd M i) = hTi (mHi M)) ∧ 8 ≤ dNd (mTd M i)
    · have c' : coM N i = true ∧ nA N 10 i = 8 := ⟨by rw [e]; exact decide_eq_true c.1, by omega⟩
      rw [usF, stF, if_pos c', if_pos c]
    · have c' : ¬ (coM N i = true ∧ nA N 10 i = 8) := fun q => c ⟨of_decide_eq_true (by rw [← e]; exact q.1), by omega⟩
      rw [usF, stF, if_neg c', if_neg c]
      exact r
theorem usM_eq {M : CsM} {N : MoM} {tb : Int} (hR : Rel M N) (hI : CsI M tb) : usM N = stM M := by
  unfold usM stM
  rw [hR.1.1]
  exact usF_eq hR hI (mN M) 0 (by omega)
theorem bjI_eq {M : CsM} {N : MoM} {i t : Nat} (hs : ∀ j, j < mNs M i → nA N 7 (i * 3 + j) = (mSc M i j).1 ∧ nA N 8 (i * 3 + j) = (mSc M i j).2.1 ∧ nA N 9 (i * 3 + j) = (mSc M i j).2.2) (hr : ∀ j, j < mNs M i → 0 ≤ (mSc M i j).1 ∧ (mSc M i j).1 ≤ 3) (hc : ∀ k, k < 4 → nA N 5 k = mCe M k) (h3i : nA N 3 i = sPri (mTs M i)) (h3t : nA N 3 t = sPri (mTs M t)) (hp : sPri (mTs M i) < sPri (mTs M t)) :
    ∀ (f j : Nat) (x y : Int), j + f = mNs M i → bjI N i t f (i * 3 + j) (max x y) = max x (lsF (mCe M) (mSc M i) (sPri (mTs M t)) f j y)
  | 0, _, _, _, _ => rfl
  | f + 1, j, x, y, h => by
    obtain ⟨h7, -, h9⟩ := hs j (by omega)
    have hrj := hr j (by omega)
    rw [bjI, lsF, h7, h9, hc (mSc M i j).1.toNat (by omega), h3i, h3t, ← bjI_eq hs hr hc h3i h3t hp f (j + 1) x _ (by omega)]
    show bjI N i t f (i * 3 + (j + 1)) _ = _
    congr 1
    by_cases c : sPri (mTs M t) ≤ mCe M (mSc M i j).1.toNat
    · rw [if_pos c]
      by_cases c2 : max x y < (mSc M i j).2.2
      · rw [if_pos ⟨hp, c, c2⟩]; omega
      · rw [if_neg (fun q => c2 q.2.2)]; omega
    · rw [if_neg c, if_neg (fun q => c q.2.1)]
theorem bjI_no {N : MoM} {i t : Nat} (hp : ¬ nA N 3 i < nA N 3 t) : ∀ (f k : Nat) (x : Int), bjI N i t f k x = x
  | 0, _, _ => rfl
  | f + 1, k, x => by rw [bjI, if_neg (fun q => hp q.1)]; exact bjI_no hp f (k + 1) x
theorem bjF_eq {M : CsM} {N : MoM} {tb : Int} (hR : Rel M N) (hI : CsI M tb) {t : Nat} (ht : t < mN M) : ∀ (f i : Nat) (x : Int), i + f = mN M → 0 ≤ x → bjF N t f i x = bkF M (sPri (mTs M t)) f i x
  | 0, _, _, _, _ => rfl
  | f + 1, i, x, h, hx => by
    obtain ⟨hc, -, -⟩ := hR.2 i (by omega)
    obtain ⟨hct, -, -⟩ := hR.2 t ht
    have rS := (hI.2.2.2.2.2.2 i (by omega)).2.2.2.2.2.1
    have e6 : (nA N 6 i).toNat = mNs M i := by rw [hc.2.1.1]; exact Int.toNat_natCast _
    rw [bjF, bkF, e6]
    by_cases c : sPri (mTs M i) < sPri (mTs M t)
    · have e := bjI_eq hc.2.1.2 (fun j hj => ⟨(rS j hj).1, (rS j hj).2.1⟩) hR.1.2.2.2.2.2.2.2.1 hc.1.2.2.2 hct.1.2.2.2 c (mNs M i) 0 x 0 (by omega)
      rw [Int.max_eq_left hx] at e
      rw [if_pos c]
      show bjF N t f (i + 1) (bjI N i t (mNs M i) (i * 3 + 0) x) = _
      rw [e]
      exact bjF_eq hR hI ht f (i + 1) _ (by omega) (by omega)
    · rw [if_neg c, bjI_no (by rw [hc.1.2.2.2, hct.1.2.2.2]; exact c)]
      exact bjF_eq hR hI ht f (i + 1) x (by omega) hx
theorem bjM_eq {M : CsM} {N : MoM} {tb : Int} (hR : Rel M N) (hI : CsI M tb) {t : Nat} (ht : t < mN M) : bjM N t = bkM M t := by
  unfold bjM bkM
  rw [hR.1.1]
  exact bjF_eq hR hI ht (mN M) 0 0 (by omega) (by omega)
theorem bnI_eq {M : CsM} {N : MoM} (hR : Rel M N) {t : Nat} (ht : t < mN M) {r : Int} : ∀ (f i : Nat) (x y : Int), i + f = mN M → bnI N t r f i (x + y) = x + toF M t r f i y
  | 0, _, _, _, _ => rfl
  | f + 1, i, x, y, h => by
    obtain ⟨hc, -, -⟩ := hR.2 i (by omega)
    obtain ⟨hct, -, -⟩ := hR.2 t ht
    rw [bnI, toF, hc.1.2.2.2, hct.1.2.2.2, hc.1.1, hc.1.2.1, ← bnI_eq hR ht f (i + 1) x _ (by omega)]
    congr 1
    by_cases c : (i : Int) ≠ (t : Int) ∧ sPri (mTs M t) ≤ sPri (mTs M i)
    · rw [if_pos c, if_pos c]; omega
    · rw [if_neg c, if_neg c]
theorem bnF_eq {M : CsM} {N : MoM} {tb : Int} (hR : Rel M N) (hI : CsI M tb) {t : Nat} (ht : t < mN M) : ∀ (f : Nat) (r : Int), bnF N t f r = boF M t f r
  | 0, _ => rfl
  | f + 1, r => by
    obtain ⟨hct, -, -⟩ := hR.2 t ht
    have e : bnI N t r (nTa N) 0 (nA N 1 t + bjM N t) = sCst (mTs M t) + bkM M t + toM M t r := by
      rw [hR.1.1, hct.1.2.1, bjM_eq hR hI ht]
      have := bnI_eq hR ht (r := r) (mN M) 0 (sCst (mTs M t) + bkM M t) 0 (by omega)
      rw [Int.add_zero] at this
      exact this
    rw [bnF, boF, e, bnF_eq hR hI ht f (r + 1)]
    by_cases c : sCst (mTs M t) + bkM M t + toM M t r = r
    · rw [if_pos c, if_pos c.symm]
    · rw [if_neg c, if_neg (fun q => c q.symm)]
theorem bnM_eq {M : CsM} {N : MoM} {tb : Int} (hR : Rel M N) (hI : CsI M tb) {t : Nat} (ht : t < mN M) : bnM N t = boM M t := by
  unfold bnM boM
  rw [(hR.2 t ht).1.1.1]
  exact bnF_eq hR hI ht _ 1
