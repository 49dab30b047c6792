/-! Sections and tasks -/
theorem hsW_iff {S : Nat → SecT} {x y : Int} : ∀ (f i : Nat), hsW S x y f i = true ↔ ∃ j, i ≤ j ∧ j < i + f ∧ x < (S j).2.1 + (S j).2.2 ∧ (S j).2.1 < y
  | 0, _ => ⟨fun q => (by cases q), fun ⟨j, h1, h2, _⟩ => absurd h2 (by omega)⟩
  | f + 1, i => by
    rw [hsW]
    by_cases c : x < (S i).2.1 + (S i).2.2 ∧ (S i).2.1 < y
    · rw [if_pos c]
      exact ⟨fun _ => ⟨i, Nat.le_refl _, by omega, c⟩, fun _ => rfl⟩
    · rw [if_neg c, hsW_iff f (i + 1)]
      constructor
      · rintro ⟨j, h1, h2, h3⟩; exact ⟨j, by omega, by omega, h3⟩
      · rintro ⟨j, h1, h2, h3⟩
        by_cases e : j = i
        · subst e; exact absurd h3 c
        · exact ⟨j, by omega, by omega, h3⟩
theorem saF_iff {N : MoM} {u : Int} : ∀ (f k : Nat), 0 ≤ saF N u f k ↔ ∃ j, k ≤ j ∧ j < k + f ∧ nA N 8 j ≤ u ∧ u < nA N 8 j + nA N 9 j
  | 0, _ => ⟨fun q => absurd q (by show ¬ (0 : Int) ≤ -1; decide), fun ⟨j, h1, h2, _⟩ => absurd h2 (by omega)⟩
  | f + 1, k => by
    rw [saF]
    by_cases c : nA N 8 k ≤ u ∧ u < nA N 8 k + nA N 9 k
    · rw [if_pos c]
      exact ⟨fun _ => ⟨k, Nat.le_refl _, by omega, c⟩, fun _ => by omega⟩
    · rw [if_neg c, saF_iff f (k + 1)]
      constructor
      · rintro ⟨j, h1, h2, h3⟩; exact ⟨j, by omega, by omega, h3⟩
      · rintro ⟨j, h1, h2, h3⟩
        by_cases e : j = k
        · subst e; exact absurd h3 c
        · exact ⟨j, by omega, by omega, h3⟩
theorem sxF_iff {N : MoM} {t : Nat} : ∀ (f : Nat) (u : Int), sxF N t f u = true ↔ ∃ v, u ≤ v ∧ v < u + (f : Int) ∧ 0 ≤ saM N t v
  | 0, _ => ⟨fun q => (by cases q), fun ⟨j, h1, h2, _⟩ => absurd h2 (by omega)⟩
  | f + 1, u => by
    rw [sxF]
    by_cases c : 0 ≤ saM N t u
    · rw [if_pos c]
      exact ⟨fun _ => ⟨u, by omega, by omega, c⟩, fun _ => rfl⟩
    · rw [if_neg c, sxF_iff f (u + 1)]
      constructor
      · rintro ⟨j, h1, h2, h3⟩; exact ⟨j, by omega, by omega, h3⟩
      · rintro ⟨j, h1, h2, h3⟩
        by_cases e : j = u
        · subst e; exact absurd h3 c
        · exact ⟨j, by omega, by omega, h3⟩
theorem sxF_eq {M : CsM} {N : MoM} {t : Nat} {x y : Int} (hc : RelC M N t) (hr : ∀ j, j < mNs M t → 1 ≤ (mSc M t j).2.2) (hy : 1 ≤ y) : sxF N t y.toNat x = true ↔ hsW (mSc M t) x (x + y) (mNs M t) 0 = true := by
  have e6 : (nA N 6 t).toNat = mNs M t := by rw [hc.2.1.1]; exact Int.toNat_natCast _
  rw [sxF_iff, hsW_iff]
  have hs := hc.2.1.2
  constructor
  · rintro ⟨v, h1, h2, h3⟩
    unfold saM at h3
    rw [e6, saF_iff] at h3
    obtain ⟨j, j1, j2, j3, j4⟩ := h3
    have hj := hs (j - t * 3) (by omega)
    have ej : t * 3 + (j - t * 3) = j := by omega
    rw [ej] at hj
    exact ⟨j - t * 3, by omega, by omega, by omega, by omega⟩
  · rintro ⟨j, j1, j2, j3, j4⟩
    have hj := hs j (by omega)
    have := hr j (by omega)
    refine ⟨max x (mSc M t j).2.1, by omega, by omega, ?_⟩
    unfold saM
    rw [e6, saF_iff]
    exact ⟨t * 3 + j, by omega, by omega, by omega, by omega⟩
theorem sc_eqR {M : CsM} {N : MoM} {tb : Int} (hR : Rel M N) (hI : CsI M tb) (v o x y : Int) : scR M v o x y = sxR N v o x y := by
  have hst := hR.1.2.2.2.2.2.2.1
  unfold scR sxR
  rw [hst, hR.1.1]
  by_cases c1 : (o < 0 ∨ 3 < o) ∨ (x < 0 ∨ 59 < x) ∨ (y < 1 ∨ 60 < y) ∨ mSt M = true ∨ (v < 0 ∨ (mN M : Int) ≤ v)
  · rw [if_pos c1, if_pos]
    rcases c1 with z | z | z | z | z
    · exact Or.inr (Or.inr (Or.inl z))
    · exact Or.inr (Or.inr (Or.inr (Or.inl z)))
    · exact Or.inr (Or.inr (Or.inr (Or.inr z)))
    · exact Or.inl z
    · exact Or.inr (Or.inl (by omega))
  · have d1 : ¬ (o < 0 ∨ 3 < o) := fun z => c1 (Or.inl z)
    have d2 : ¬ (x < 0 ∨ 59 < x) := fun z => c1 (Or.inr (Or.inl z))
    have d3 : ¬ (y < 1 ∨ 60 < y) := fun z => c1 (Or.inr (Or.inr (Or.inl z)))
    have d4 : ¬ mSt M = true := fun z => c1 (Or.inr (Or.inr (Or.inr (Or.inl z))))
    have d5 : ¬ (v < 0 ∨ (mN M : Int) ≤ v) := fun z => c1 (Or.inr (Or.inr (Or.inr (Or.inr z))))
    rw [if_neg c1, if_neg (fun q => by rcases q with z | z | z | z | z <;> first | exact d4 z | omega)]
    have hv : v.toNat < mN M := by omega
    obtain ⟨hc, -, -⟩ := hR.2 _ hv
    have hk := hI.2.2.2.2.2.2 _ hv
    have hS := hk.2.2.2.2.2.1
    have ex := sxF_eq (x := x) hc (fun j hj => (hS j hj).2.2.2.2.1) (by omega : 1 ≤ y)
    rw [hc.1.2.1, hc.1.2.2.2, hR.1.2.2.2.2.2.2.2.1 o.toNat (by omega), hc.2.1.1]
    have h3 := hk.2.2.2.2.1
    by_cases e1 : sCst (mTs M v.toNat) < x + y
    · rw [if_pos (Or.inl e1), if_pos e1]
    · rw [if_neg e1]
      by_cases e2 : hsW (mSc M v.toNat) x (x + y) (mNs M v.toNat) 0 = true
      · rw [if_pos (Or.inr (Or.inl e2)), if_pos (ex.mpr e2)]
      · rw [if_neg (fun q => e2 (ex.mp q))]
        by_cases e3 : mCe M o.toNat < sPri (mTs M v.toNat)
        · rw [if_pos (Or.inr (Or.inr e3)), if_pos e3]
        · rw [if_neg (fun q => by rcases q with z | z | z; exact e1 z; exact e2 z; exact e3 z), if_neg e3]
          by_cases e4 : 3 ≤ (mNs M v.toNat : Int)
          · rw [if_pos e4, if_pos (by omega)]
          · rw [if_neg e4, if_neg (by omega)]
theorem scR_0 {M : CsM} {v o x y : Int} (h : scR M v o x y = 0) : (0 ≤ v ∧ v < (mN M : Int)) ∧ (0 ≤ o ∧ o ≤ 3) ∧ (0 ≤ x ∧ x ≤ 59) ∧ (1 ≤ y ∧ y ≤ 60) ∧ hsW (mSc M v.toNat) x (x + y) (mNs M v.toNat) 0 = false ∧ mNs M v.toNat < 3 := by
  unfold scR at h
  by_cases c1 : mSt M = true ∨ (v < 0 ∨ (mN M : Int) - 1 < v) ∨ (o < 0 ∨ 3 < o) ∨ (x < 0 ∨ 59 < x) ∨ (y < 1 ∨ 60 < y)
  · rw [if_pos c1] at h; omega
  · rw [if_neg c1] at h
    have d : ¬ ((v < 0 ∨ (mN M : Int) - 1 < v) ∨ (o < 0 ∨ 3 < o) ∨ (x < 0 ∨ 59 < x) ∨ (y < 1 ∨ 60 < y)) := fun z => c1 (Or.inr z)
    by_cases c2 : sCst (mTs M v.toNat) < x + y ∨ hsW (mSc M v.toNat) x (x + y) (mNs M v.toNat) 0 = true ∨ mCe M o.toNat < sPri (mTs M v.toNat)
    · rw [if_pos c2] at h; omega
    · rw [if_neg c2] at h
      have d2 : hsW (mSc M v.toNat) x (x + y) (mNs M v.toNat) 0 = false := by
        cases q : hsW (mSc M v.toNat) x (x + y) (mNs M v.toNat) 0 with
        | false => rfl
        | true => exact absurd (Or.inr (Or.inl q)) c2
      refine ⟨by omega, by omega, by omega, by omega, d2, ?_⟩
      by_cases c3 : 3 ≤ (mNs M v.toNat : Int)
      · rw [if_pos c3] at h; omega
      · omega
theorem se_eq {M : CsM} {N : MoM} {tb : Int} (h : RR M N tb) (v o x y : Int) : scR M v o x y = sxR N v o x y ∧ RR (scM M v o x y) (sxM N v o x y) tb := by
  obtain ⟨hR, hZ, hI, hJ⟩ := h
  have e := sc_eqR hR hI v o x y
  refine ⟨e, ?_⟩
  unfold scM sxM
  rw [← e]
  by_cases c0 : scR M v o x y = 0
  · rw [if_pos c0, if_pos c0]
    obtain ⟨rv, ro, rx, ry, hw, hn⟩ := scR_0 c0
    have hv : v.toNat < mN M := by omega
    generalize v.toNat = t at hv hw hn
    have hw' : ∀ j, j < mNs M t → ¬ (x < (mSc M t j).2.1 + (mSc M t j).2.2 ∧ (mSc M t j).2.1 < x + y) := fun j hj q => by
      rw [hsW_iff (mNs M t) 0 |>.mpr ⟨j, Nat.zero_le _, by omega, q⟩] at hw
      cases hw
    have h6t := (hR.2 t hv).1.2.1.1
    obtain ⟨⟨g1, g2, g3, g4, g5, g6, g7, g8, g9⟩, hT⟩ := hR
    obtain ⟨i1, i2, i3, i4, i5, i6, i7⟩ := hI
    obtain ⟨a1, a2, a3, a4, a5, a6, a7, a8, a9, b1, b2⟩ := hJ
    have e6 : (nA N 6 t).toNat = mNs M t := by rw [h6t]; exact Int.toNat_natCast _
    refine ⟨⟨⟨g1, g2, g3, g4, g5, g6, g7, g8, g9⟩, fun i hi => ?_⟩, ⟨hZ.1, hZ.2.1, fun i hi => ?_⟩, ⟨i1, i2, i3, i4, i5, i6, fun i hi => ?_⟩, ⟨a1, a2, a3, a4, a5, a6, ?_, ?_, ?_, b1, fun i hi => ?_⟩⟩
    · obtain ⟨⟨r1, ⟨r2, r3⟩, r4, r5⟩, hx, hl⟩ := hT i hi
      refine ⟨⟨r1, ⟨?_, fun j hj => ?_⟩, ?_, r5⟩, hx, hl⟩
      · show va_up (nA N 6) t (nA N 6 t + 1) i = ((va_up (mNs M) t (mNs M t + 1) i : Nat) : Int)
        by_cases q : i = t
        · rw [q, va_up_s, va_up_s, h6t]; omega
        · rw [va_up_n _ _ q, va_up_n _ _ q]; exact r2
      · have hj' : j < va_up (mNs M) t (mNs M t + 1) i := hj
        show va_up (nA N 7) (t * 3 + (nA N 6 t).toNat) o (i * 3 + j) = (va_up (mSc M) t (va_up (mSc M t) (mNs M t) (o, x, y)) i j).1 ∧ va_up (nA N 8) (t * 3 + (nA N 6 t).toNat) x (i * 3 + j) = (va_up (mSc M) t (va_up (mSc M t) (mNs M t) (o, x, y)) i j).2.1 ∧ va_up (nA N 9) (t * 3 + (nA N 6 t).toNat) y (i * 3 + j) = (va_up (mSc M) t (va_up (mSc M t) (mNs M t) (o, x, y)) i j).2.2
        rw [e6]
        by_cases q : i = t
        · subst q
          rw [va_up_s] at hj' ⊢
          by_cases q2 : j = mNs M i
          · rw [q2, va_up_s, va_up_s, va_up_s, va_up_s]; exact ⟨rfl, rfl, rfl⟩
          · have q3 : i * 3 + j ≠ i * 3 + mNs M i := by omega
            rw [va_up_n _ _ q3, va_up_n _ _ q3, va_up_n _ _ q3, va_up_n _ _ q2]
            exact r3 j (by omega)
        · rw [va_up_n _ _ q] at hj'
          have h3 : mNs M i ≤ 3 := (i7 i hi).2.2.2.2.1
          have q3 : i * 3 + j ≠ t * 3 + mNs M t := by omega
          rw [va_up_n _ _ q3, va_up_n _ _ q3, va_up_n _ _ q3, va_up_n _ _ q]
          exact r3 j hj'
      · intro j k
        show j < va_up (mNs M) t (mNs M t + 1) i → k < va_up (mNs M) t (mNs M t + 1) i → j ≠ k → (va_up (mSc M) t (va_up (mSc M t) (mNs M t) (o, x, y)) i j).2.1 + (va_up (mSc M) t (va_up (mSc M t) (mNs M t) (o, x, y)) i j).2.2 ≤ (va_up (mSc M) t (va_up (mSc M t) (mNs M t) (o, x, y)) i k).2.1 ∨ (va_up (mSc M) t (va_up (mSc M t) (mNs M t) (o, x, y)) i k).2.1 + (va_up (mSc M) t (va_up (mSc M t) (mNs M t) (o, x, y)) i k).2.2 ≤ (va_up (mSc M) t (va_up (mSc M t) (mNs M t) (o, x, y)) i j).2.1
        by_cases q : i = t
        · subst q
          rw [va_up_s, va_up_s]
          intro hj hk hjk
          by_cases q1 : j = mNs M i
          · subst q1
            rw [va_up_s, va_up_n _ _ (Ne.symm hjk)]
            have := hw' k (by omega)
            show x + y ≤ _ ∨ _ ≤ x
            omega
          · rw [va_up_n _ _ q1]
            by_cases q2 : k = mNs M i
            · subst q2
              rw [va_up_s]
              have := hw' j (by omega)
              show _ ≤ x ∨ x + y ≤ _
              omega
            · rw [va_up_n _ _ q2]
              exact r4 j k (by omega) (by omega) hjk
        · rw [va_up_n _ _ q, va_up_n _ _ q]
          exact r4 j k
    · have hi' : mN M ≤ i := hi
      obtain ⟨z1, z2⟩ := hZ.2.2 i hi
      exact ⟨(va_up_n (nA N 6) _ (by omega)).trans z1, z2⟩
    · obtain ⟨c1, c2, c3, c4, c5, c6, c7⟩ := i7 i hi
      refine ⟨c1, c2, c3, c4, ?_, fun j => ?_, c7⟩
      · show va_up (mNs M) t (mNs M t + 1) i ≤ 3
        by_cases q : i = t
        · rw [q, va_up_s]; omega
        · rw [va_up_n _ _ q]; exact c5
      · show j < va_up (mNs M) t (mNs M t + 1) i → 0 ≤ (va_up (mSc M) t (va_up (mSc M t) (mNs M t) (o, x, y)) i j).1 ∧ (va_up (mSc M) t (va_up (mSc M t) (mNs M t) (o, x, y)) i j).1 ≤ 3 ∧ 0 ≤ (va_up (mSc M) t (va_up (mSc M t) (mNs M t) (o, x, y)) i j).2.1 ∧ (va_up (mSc M) t (va_up (mSc M t) (mNs M t) (o, x, y)) i j).2.1 ≤ 59 ∧ 1 ≤ (va_up (mSc M) t (va_up (mSc M t) (mNs M t) (o, x, y)) i j).2.2 ∧ (va_up (mSc M) t (va_up (mSc M t) (mNs M t) (o, x, y)) i j).2.2 ≤ 60
        by_cases q : i = t
        · subst q
          rw [va_up_s, va_up_s]
          intro hj
          by_cases q1 : j = mNs M i
          · rw [q1, va_up_s]; exact ⟨ro.1, ro.2, rx.1, rx.2, ry.1, ry.2⟩
          · rw [va_up_n _ _ q1]; exact c6 j (by omega)
        · rw [va_up_n _ _ q, va_up_n _ _ q]; exact c6 j
    · exact rng_up (P := fun z => 0 ≤ z ∧ z ≤ 3) a7 ro
    · exact rng_up (P := fun z => 0 ≤ z ∧ z ≤ 59) a8 rx
    · exact rng_up (P := fun z => 0 ≤ z ∧ z ≤ 60) a9 (by omega)
    · obtain ⟨c1, c2, c3, c4, c5, c6, c7⟩ := b2 i hi
      refine ⟨c1, c2, c3, c4, c5, ?_, c7⟩
      show 0 ≤ va_up (nA N 6) t (nA N 6 t + 1) i ∧ va_up (nA N 6) t (nA N 6 t + 1) i ≤ 3
      by_cases q : i = t
      · rw [q, va_up_s]; omega
      · rw [va_up_n _ _ q]; exact c6
  · rw [if_neg c0, if_neg c0]
    exact ⟨hR, hZ, hI, hJ⟩
theorem df_eq {M : CsM} {N : MoM} {tb : Int} (h : RR M N tb) (p c d r o : Int) : dfR M p c d r o = dnR N p c d r o ∧ RR (dfM M p c d r o) (dnM N p c d r o) tb := by
  obtain ⟨hR, hZ, hI, hJ⟩ := h
  have hst := hR.1.2.2.2.2.2.2.1
  have h6 := hI.2.1
  have e : dfR M p c d r o = dnR N p c d r o := by
    unfold dfR dnR
    rw [hst, hR.1.1]
    by_cases c1 : (p < 2 ∨ 60 < p) ∨ (c < 1 ∨ p < c) ∨ (d < 1 ∨ p < d) ∨ (r < 1 ∨ 10 < r) ∨ (o < -1 ∨ 59 < o)
    · rw [if_pos c1, if_pos (Or.inr c1)]
    · rw [if_neg c1]
      by_cases c2 : mSt M = true
      · rw [if_pos c2, if_pos (Or.inl c2)]
      · rw [if_neg c2, if_neg (fun q => q.elim c2 c1)]
        by_cases c3 : 6 ≤ (mN M : Int)
        · rw [if_pos c3, if_pos (by omega)]
        · rw [if_neg c3, if_neg (by omega)]
  refine ⟨e, ?_⟩
  unfold dfM dnM
  rw [← e]
  by_cases c0 : 0 ≤ dfR M p c d r o
  · rw [if_pos c0, if_pos c0]
    have hr : ¬ mSt M = true ∧ ¬ ((p < 2 ∨ 60 < p) ∨ (c < 1 ∨ p < c) ∨ (d < 1 ∨ p < d) ∨ (r < 1 ∨ 10 < r) ∨ (o < -1 ∨ 59 < o)) ∧ mN M < 6 := by
      unfold dfR at c0
      by_cases c1 : mSt M = true ∨ (p < 2 ∨ 60 < p) ∨ (c < 1 ∨ p < c) ∨ (d < 1 ∨ p < d) ∨ (r < 1 ∨ 10 < r) ∨ (o < -1 ∨ 59 < o)
      · rw [if_pos c1] at c0; omega
      · rw [if_neg c1] at c0
        refine ⟨fun z => c1 (Or.inl z), fun z => c1 (Or.inr z), ?_⟩
        by_cases c2 : 6 ≤ (mN M : Int)
        · rw [if_pos c2] at c0; omega
        · omega
    obtain ⟨ns, nr, nn⟩ := hr
    have hst0 : mSt M = false := by cases q : mSt M with | false => rfl | true => exact absurd q ns
    have ht0 := hZ.1 hst0
    obtain ⟨⟨g1, g2, g3, g4, g5, g6, g7, g8, g9⟩, hT⟩ := hR
    obtain ⟨i1, i2, i3, i4, i5, i6, i7⟩ := hI
    obtain ⟨a1, a2, a3, a4, a5, a6, a7, a8, a9, b1, b2⟩ := hJ
    obtain ⟨z6, z10, z12, z13, z14, z15, z16⟩ := hZ.2.2 (mN M) (Nat.le_refl _)
    have ej : ∀ {α : Type} (f : Nat → α) (y : α) (i : Nat), i < mN M → va_up f (mN M) y i = f i := fun f y i hi => va_up_n f y (by omega)
    refine ⟨⟨⟨?_, g2, g3, g4, g5, g6, g7, g8, g9⟩, fun i hi => ?_⟩, ⟨hZ.1, hZ.2.1, fun i hi => hZ.2.2 i (Nat.le_of_succ_le hi)⟩, ⟨i1, nn, i3, i4, i5, i6, fun i hi => ?_⟩, ⟨a1, ?_, a3, a4, a5, a6, a7, a8, a9, b1, fun i hi => ?_⟩⟩
    · show nTa N + 1 = mN M + 1; rw [g1]
    · have hi' : i < mN M + 1 := hi
      by_cases q : i = mN M
      · subst q
        refine ⟨⟨⟨?_, ?_, ?_, ?_⟩, ⟨?_, ?_⟩, ?_, ⟨?_, ?_⟩, ?_, ?_, ?_, ?_, ?_, ?_⟩, ⟨?_, ?_⟩, ?_⟩
        · show va_up (nA N 0) (nTa N) p (mN M) = sPer (va_up (mTs M) (mN M) (p, c, d, r, decide (o = -1)) (mN M))
          rw [g1, va_up_s, va_up_s]; rfl
        · show va_up (nA N 1) (nTa N) c (mN M) = sCst (va_up (mTs M) (mN M) (p, c, d, r, decide (o = -1)) (mN M))
          rw [g1, va_up_s, va_up_s]; rfl
        · show va_up (nA N 2) (nTa N) d (mN M) = sDdl (va_up (mTs M) (mN M) (p, c, d, r, decide (o = -1)) (mN M))
          rw [g1, va_up_s, va_up_s]; rfl
        · show va_up (nA N 3) (nTa N) r (mN M) = sPri (va_up (mTs M) (mN M) (p, c, d, r, decide (o = -1)) (mN M))
          rw [g1, va_up_s, va_up_s]; rfl
        · show nA N 6 (mN M) = ((va_up (mNs M) (mN M) 0 (mN M) : Nat) : Int)
          rw [va_up_s]; exact z6
        · intro j hj
          have hj' : j < va_up (mNs M) (mN M) 0 (mN M) := hj
          rw [va_up_s] at hj'; omega
        · intro j k hj
          have hj' : j < va_up (mNs M) (mN M) 0 (mN M) := hj
          rw [va_up_s] at hj'; omega
        · show nA N 10 (mN M) = dNd (va_up (mTd M) (mN M) (o, fun _ => 0, 0, 0, 0, 0, 0, 0, 0) (mN M))
          rw [va_up_s]; exact z10
        · intro k hk
          have hk' : (k : Int) < dNd (va_up (mTd M) (mN M) (o, fun _ => 0, 0, 0, 0, 0, 0, 0, 0) (mN M)) := hk
          rw [va_up_s] at hk'
          have : (k : Int) < 0 := hk'
          omega
        · show nA N 12 (mN M) = dUf (va_up (mTd M) (mN M) (o, fun _ => 0, 0, 0, 0, 0, 0, 0, 0) (mN M))
          rw [va_up_s]; exact z12
        · show nA N 13 (mN M) = dRl (va_up (mTd M) (mN M) (o, fun _ => 0, 0, 0, 0, 0, 0, 0, 0) (mN M))
          rw [va_up_s]; exact z13
        · show nA N 14 (mN M) = dRl (va_up (mTd M) (mN M) (o, fun _ => 0, 0, 0, 0, 0, 0, 0, 0) (mN M)) - dNd (va_up (mTd M) (mN M) (o, fun _ => 0, 0, 0, 0, 0, 0, 0, 0) (mN M))
          rw [va_up_s]; exact z14
        · show nA N 16 (mN M) = dGr (va_up (mTd M) (mN M) (o, fun _ => 0, 0, 0, 0, 0, 0, 0, 0) (mN M))
          rw [va_up_s]; exact z16
        · intro hk
          have hk' : 0 < dRl (va_up (mTd M) (mN M) (o, fun _ => 0, 0, 0, 0, 0, 0, 0, 0) (mN M)) := hk
          rw [va_up_s] at hk'
          have : (0 : Int) < 0 := hk'
          omega
        · intro _
          show dUf (va_up (mTd M) (mN M) (o, fun _ => 0, 0, 0, 0, 0, 0, 0, 0) (mN M)) = 0
          rw [va_up_s]; rfl
        · intro hk
          have hk' : sSpo (va_up (mTs M) (mN M) (p, c, d, r, decide (o = -1)) (mN M)) = true := hk
          rw [va_up_s] at hk'
          show va_up (nA N 4) (nTa N) o (mN M) = -1
          rw [g1, va_up_s]
          exact of_decide_eq_true hk'
        · intro hk
          have hk' : sSpo (va_up (mTs M) (mN M) (p, c, d, r, decide (o = -1)) (mN M)) = false := hk
          rw [va_up_s] at hk'
          have : ¬ o = -1 := of_decide_eq_false hk'
          show 0 ≤ va_up (nA N 4) (nTa N) o (mN M) ∧ va_up (nA N 4) (nTa N) o (mN M) ≤ dNxt (va_up (mTd M) (mN M) (o, fun _ => 0, 0, 0, 0, 0, 0, 0, 0) (mN M)) ∧ (dNxt (va_up (mTd M) (mN M) (o, fun _ => 0, 0, 0, 0, 0, 0, 0, 0) (mN M)) - va_up (nA N 4) (nTa N) o (mN M)) % _ = 0 ∧ hTi (mHi M) ≤ dNxt (va_up (mTd M) (mN M) (o, fun _ => 0, 0, 0, 0, 0, 0, 0, 0) (mN M)) ∧ (dNxt (va_up (mTd M) (mN M) (o, fun _ => 0, 0, 0, 0, 0, 0, 0, 0) (mN M)) = va_up (nA N 4) (nTa N) o (mN M) ∨ _)
          rw [g1, va_up_s, va_up_s, ht0]
          refine ⟨by omega, Int.le_refl _, ?_, ?_, Or.inl rfl⟩
          · show (o - o) % _ = 0
            rw [Int.sub_self, Int.zero_emod]
          · show 0 ≤ o
            omega
        · show nA N 15 (mN M) = jlC (dRel (va_up (mTd M) (mN M) (o, fun _ => 0, 0, 0, 0, 0, 0, 0, 0) (mN M))) (dFr (va_up (mTd M) (mN M) (o, fun _ => 0, 0, 0, 0, 0, 0, 0, 0) (mN M))) (hTi (mHi M)) _ (dNd (va_up (mTd M) (mN M) (o, fun _ => 0, 0, 0, 0, 0, 0, 0, 0) (mN M))).toNat 0 (dDl (va_up (mTd M) (mN M) (o, fun _ => 0, 0, 0, 0, 0, 0, 0, 0) (mN M)))
          rw [va_up_s]
          exact z15
      · have hlt : i < mN M := by omega
        have q1 : mTs (tskM M (p, c, d, r, decide (o = -1)) o) i = mTs M i := ej _ _ i hlt
        have q2 : mNs (tskM M (p, c, d, r, decide (o = -1)) o) i = mNs M i := ej _ _ i hlt
        have q3 : mTd (tskM M (p, c, d, r, decide (o = -1)) o) i = mTd M i := ej _ _ i hlt
        have n0 : nA (dnN N p c d r o) 0 i = nA N 0 i := va_up_n (nA N 0) p (by omega)
        have n1 : nA (dnN N p c d r o) 1 i = nA N 1 i := va_up_n (nA N 1) c (by omega)
        have n2 : nA (dnN N p c d r o) 2 i = nA N 2 i := va_up_n (nA N 2) d (by omega)
        have n3 : nA (dnN N p c d r o) 3 i = nA N 3 i := va_up_n (nA N 3) r (by omega)
        have n4 : nA (dnN N p c d r o) 4 i = nA N 4 i := va_up_n (nA N 4) o (by omega)
        obtain ⟨k1, k2, k3⟩ := hT i hlt
        unfold RelC RelX jlM
        rw [q1, q2, q3, n0, n1, n2, n3, n4]
        exact ⟨k1, k2, k3⟩
    · have hi' : i < mN M + 1 := hi
      by_cases q : i = mN M
      · subst q
        show TkI (va_up (mTs M) (mN M) (p, c, d, r, decide (o = -1)) (mN M)) (va_up (mNs M) (mN M) 0 (mN M)) (mSc M (mN M)) (va_up (mTd M) (mN M) (o, fun _ => 0, 0, 0, 0, 0, 0, 0, 0) (mN M)) tb
        rw [va_up_s, va_up_s, va_up_s]
        refine ⟨?_, ?_, ?_, ?_, by omega, fun j hj => absurd hj (by omega), ?_, ?_, ?_, ?_, ?_, ?_, ?_, fun k => ?_, ?_⟩
        · show 2 ≤ p ∧ p ≤ 60; omega
        · show 1 ≤ c ∧ c ≤ 60; omega
        · show 1 ≤ d ∧ d ≤ 60; omega
        · show 1 ≤ r ∧ r ≤ 10; omega
        · show -1 ≤ o ∧ o ≤ tb + 60; omega
        · show (0 : Int) ≤ 0 ∧ (0 : Int) < 8; omega
        · show (0 : Int) ≤ 0 ∧ (0 : Int) ≤ 8; omega
        · show (0 : Int) ≤ 0 ∧ (0 : Int) < 60; omega
        · show (0 : Int) ≤ 0 ∧ (0 : Int) ≤ 0 + 1; omega
        · show (0 : Int) ≤ 0 ∧ (0 : Int) ≤ tb; omega
        · show (0 : Int) ≤ 0 ∧ (0 : Int) ≤ tb; omega
        · show (0 : Int) ≤ 0 ∧ (0 : Int) ≤ tb; omega
        · intro _ z
          have : (0 : Int) < 0 := z
          omega
      · have hlt : i < mN M := by omega
        have q1 : mTs (tskM M (p, c, d, r, decide (o = -1)) o) i = mTs M i := ej _ _ i hlt
        have q2 : mNs (tskM M (p, c, d, r, decide (o = -1)) o) i = mNs M i := ej _ _ i hlt
        have q3 : mTd (tskM M (p, c, d, r, decide (o = -1)) o) i = mTd M i := ej _ _ i hlt
        rw [q1, q2, q3]
        exact i7 i hlt
    · show nTa N + 1 ≤ 6; omega
    · have hi' : i < nTa N + 1 := hi
      by_cases q : i = nTa N
      · subst q
        rw [← g1] at z6 z10 z12 z16
        show (2 ≤ va_up (nA N 0) (nTa N) p (nTa N) ∧ va_up (nA N 0) (nTa N) p (nTa N) ≤ 60) ∧ (1 ≤ va_up (nA N 1) (nTa N) c (nTa N) ∧ va_up (nA N 1) (nTa N) c (nTa N) ≤ 60) ∧ (1 ≤ va_up (nA N 2) (nTa N) d (nTa N) ∧ va_up (nA N 2) (nTa N) d (nTa N) ≤ 60) ∧ (1 ≤ va_up (nA N 3) (nTa N) r (nTa N) ∧ va_up (nA N 3) (nTa N) r (nTa N) ≤ 10) ∧ (-1 ≤ va_up (nA N 4) (nTa N) o (nTa N) ∧ va_up (nA N 4) (nTa N) o (nTa N) ≤ 59) ∧ (0 ≤ nA N 6 (nTa N) ∧ nA N 6 (nTa N) ≤ 3) ∧ (0 ≤ nA N 10 (nTa N) ∧ nA N 10 (nTa N) ≤ 8) ∧ (0 ≤ nA N 12 (nTa N) ∧ nA N 12 (nTa N) < 60) ∧ (0 ≤ nA N 16 (nTa N) ∧ nA N 16 (nTa N) ≤ tb)
        rw [va_up_s, va_up_s, va_up_s, va_up_s, va_up_s]
        omega
      · have n0 : nA (dnN N p c d r o) 0 i = nA N 0 i := va_up_n (nA N 0) p q
        have n1 : nA (dnN N p c d r o) 1 i = nA N 1 i := va_up_n (nA N 1) c q
        have n2 : nA (dnN N p c d r o) 2 i = nA N 2 i := va_up_n (nA N 2) d q
        have n3 : nA (dnN N p c d r o) 3 i = nA N 3 i := va_up_n (nA N 3) r q
        have n4 : nA (dnN N p c d r o) 4 i = nA N 4 i := va_up_n (nA N 4) o q
        rw [n0, n1, n2, n3, n4]
        exact b2 i (by omega)
  · rw [if_neg c0, if_neg c0]
    exact ⟨hR, hZ, hI, hJ⟩
