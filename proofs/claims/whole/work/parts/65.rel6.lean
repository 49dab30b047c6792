/-! A release -/
def ctF (p : Nat → Bool) : Nat → Nat → Int
  | 0, _ => 0
  | f + 1, i => (if p i = true then 1 else 0) + ctF p f (i + 1)
theorem ctF_congr {p q : Nat → Bool} : ∀ (f i : Nat), (∀ j, i ≤ j → j < i + f → p j = q j) → ctF p f i = ctF q f i
  | 0, _, _ => rfl
  | f + 1, i, h => by
    rw [ctF, ctF, h i (Nat.le_refl _) (by omega), ctF_congr f (i + 1) (fun j h1 h2 => h j (by omega) (by omega))]
theorem ctF_snoc (p : Nat → Bool) : ∀ (f i : Nat), ctF p (f + 1) i = ctF p f i + (if p (i + f) = true then 1 else 0)
  | 0, i => by simp [ctF]
  | f + 1, i => by
    have e : i + 1 + f = i + (f + 1) := by omega
    rw [ctF, ctF_snoc p f (i + 1), e]
    show _ = ((if p i = true then 1 else 0) + ctF p f (i + 1)) + _
    rw [Int.add_assoc]
theorem ctF_add {p q r : Nat → Bool} : ∀ (f i : Nat), (∀ j, i ≤ j → j < i + f → (if p j = true then (1 : Int) else 0) = (if q j = true then 1 else 0) + (if r j = true then 1 else 0)) → ctF p f i = ctF q f i + ctF r f i
  | 0, _, _ => rfl
  | f + 1, i, h => by
    rw [ctF, ctF, ctF, h i (Nat.le_refl _) (by omega), ctF_add f (i + 1) (fun j h1 h2 => h j (by omega) (by omega))]
    omega
theorem ctF_shift (p : Nat → Bool) : ∀ (f i : Nat), ctF p f (i + 1) = ctF (fun j => p (j + 1)) f i
  | 0, _ => rfl
  | f + 1, i => by rw [ctF, ctF, ctF_shift p f (i + 1)]
def lt1 (d : TkD) (t dd : Int) (j : Nat) : Bool := decide (dd ≤ t - dRel d ((dFr d + (j : Int)) % 8).toNat)
theorem jlC_ct {rel : Nat → Int} {fr t d : Int} : ∀ (f i : Nat) (k : Int), jlC rel fr t d f i k = k + ctF (fun j => decide (d ≤ t - rel ((fr + (j : Int)) % 8).toNat)) f i
  | 0, _, k => (Int.add_zero k).symm
  | f + 1, i, k => by
    rw [jlC, jlC_ct f (i + 1), ctF]
    by_cases c : d ≤ t - rel ((fr + (i : Int)) % 8).toNat
    · rw [if_pos c, if_pos (decide_eq_true c)]; omega
    · rw [if_neg c, if_neg (fun q => c (of_decide_eq_true q))]; omega
/-- the late jobs of a task at the time t -/
def jlT (x : TkS) (d : TkD) (t : Int) : Int := dDl d + ctF (lt1 d t (sDdl x)) (dNd d).toNat 0
theorem jlM_T (M : CsM) (i : Nat) : jlM M i = jlT (mTs M i) (mTd M i) (hTi (mHi M)) := jlC_ct _ _ _
theorem jlT_rl {x : TkS} {d : TkD} {nx t : Int} (hn : 0 ≤ dNd d ∧ dNd d < 8) (hf : 0 ≤ dFr d) (hd : 1 ≤ sDdl x) : jlT x (rlD d nx t) t = jlT x d t := by
  unfold jlT
  show dDl d + ctF _ (dNd d + 1).toNat 0 = _
  have e : (dNd d + 1).toNat = (dNd d).toNat + 1 := by omega
  rw [e, ctF_snoc]
  have e1 : lt1 (rlD d nx t) t (sDdl x) (0 + (dNd d).toNat) = false := by
    unfold lt1
    refine decide_eq_false ?_
    show ¬ sDdl x ≤ t - va_up (dRel d) ((dFr d + dNd d) % 8).toNat t ((dFr d + ((0 + (dNd d).toNat : Nat) : Int)) % 8).toNat
    have e2 : ((0 + (dNd d).toNat : Nat) : Int) = dNd d := by omega
    rw [e2, va_up_s]
    omega
  have e3 : ctF (lt1 (rlD d nx t) t (sDdl x)) (dNd d).toNat 0 = ctF (lt1 d t (sDdl x)) (dNd d).toNat 0 := by
    refine ctF_congr _ _ (fun j h1 h2 => ?_)
    unfold lt1
    show decide (sDdl x ≤ t - va_up (dRel d) ((dFr d + dNd d) % 8).toNat t ((dFr d + (j : Int)) % 8).toNat) = _
    rw [va_up_n _ _ (by omega)]
  rw [e1, e3]
  simp
theorem RelC_rl {M : CsM} {N : MoM} {t : Nat} {nx ti : Int} (h : RelC M N t) (ht : nTi N = ti) (hn : 0 ≤ dNd (mTd M t) ∧ dNd (mTd M t) < 8) (hf : 0 ≤ dFr (mTd M t)) : RelC (updTd M t (rlD (mTd M t) nx ti)) (lgM N t) t := by
  obtain ⟨r1, r2, r3, ⟨r4, r5⟩, r6, r7, r8, r9, rA, rB⟩ := h
  unfold RelC
  rw [mTd_upd]
  refine ⟨r1, r2, r3, ⟨?_, fun k hk => ?_⟩, r6, ?_, ?_, r9, fun _ => ?_, fun q => ?_⟩
  · show va_up (nA N 10) t (nA N 10 t + 1) t = dNd (mTd M t) + 1
    rw [va_up_s, r4]
  · have hk' : (k : Int) < dNd (mTd M t) + 1 := hk
    show va_up (nA N 11) (t * 8 + (nA N 10 t).toNat) (nTi N) (t * 8 + k) = va_up (dRel (mTd M t)) ((dFr (mTd M t) + dNd (mTd M t)) % 8).toNat ti ((dFr (mTd M t) + (k : Int)) % 8).toNat
    rw [r4]
    by_cases q : (k : Int) = dNd (mTd M t)
    · have e : t * 8 + k = t * 8 + (dNd (mTd M t)).toNat := by omega
      rw [q, e, va_up_s, va_up_s, ht]
    · rw [va_up_n _ _ (by omega), va_up_n _ _ (by omega)]
      exact r5 k (by omega)
  · show va_up (nA N 13) t (nA N 13 t + 1) t = dRl (mTd M t) + 1
    rw [va_up_s, r7]
  · show nA N 14 t = dRl (mTd M t) + 1 - (dNd (mTd M t) + 1)
    rw [r8]; omega
  · show va_up (nA N 17) t (nTi N) t = ti
    rw [va_up_s, ht]
  · have : dNd (mTd M t) + 1 = 0 := q
    omega
theorem RelC_rn {M : CsM} {N : MoM} {t j : Nat} {d : TkD} (h : RelC M N j) (hj : j ≠ t) (hn : nA N 10 t < 8) (hm : dNd (mTd M j) ≤ 8) : RelC (updTd M t d) (lgM N t) j := by
  obtain ⟨r1, r2, r3, ⟨r4, r5⟩, r6, r7, r8, r9, rA, rB⟩ := h
  unfold RelC
  rw [mTd_upn M d hj]
  refine ⟨r1, r2, r3, ⟨?_, fun k hk => ?_⟩, r6, ?_, r8, r9, fun q => ?_, rB⟩
  · exact (va_up_n (nA N 10) _ hj).trans r4
  · exact (va_up_n (nA N 11) _ (by omega)).trans (r5 k hk)
  · exact (va_up_n (nA N 13) _ hj).trans r7
  · exact (va_up_n (nA N 17) _ hj).trans (rA q)
theorem RelZ_rl {M : CsM} {N : MoM} {t : Nat} {d : TkD} (h : RelZ M N) (ht : t < mN M) (h0 : 0 ≤ nTi N) : RelZ (updTd M t d) (lgM N t) := by
  refine ⟨h.1, rng_up (P := fun z => 0 ≤ z ∧ z ≤ nTi N) h.2.1 ⟨h0, Int.le_refl _⟩, fun i hi => ?_⟩
  obtain ⟨z6, z10, z12, z13, z14⟩ := h.2.2 i hi
  have hi' : mN M ≤ i := hi
  exact ⟨z6, (va_up_n (nA N 10) _ (by omega)).trans z10, z12, (va_up_n (nA N 13) _ (by omega)).trans z13, z14⟩
theorem ev_eq {M : CsM} {N : MoM} {tb : Int} (h : RR M N tb) (v : Int) : evR M v = enR N v ∧ RR (evM M v) (enM N v) tb := by
  obtain ⟨hR, hZ, hI, hJ⟩ := h
  have hst := hR.1.2.2.2.2.2.2.1
  have hin : ¬ (mSt M = false ∨ (v < 0 ∨ (mN M : Int) ≤ v)) → v.toNat < mN M := fun q => by
    have : ¬ (v < 0 ∨ (mN M : Int) ≤ v) := fun z => q (Or.inr z)
    omega
  have e : evR M v = enR N v := by
    unfold evR enR
    rw [hst, hR.1.1]
    by_cases c1 : mSt M = false ∨ (v < 0 ∨ (mN M : Int) ≤ v)
    · rw [if_pos c1, if_pos (by rcases c1 with z | z; exact Or.inl z; exact Or.inr (by omega))]
    · rw [if_neg c1, if_neg (fun q => c1 (by rcases q with z | z; exact Or.inl z; exact Or.inr (by omega)))]
      have hv := hin c1
      obtain ⟨hc, hx, -⟩ := hR.2 _ hv
      have hk := hI.2.2.2.2.2.2 _ hv
      have kn := hk.2.2.2.2.2.2.2.2.1
      rw [hc.2.2.2.2.2.1, hR.1.2.1, hc.1.1, hc.2.2.2.1.1]
      cases hs : sSpo (mTs M v.toNat) with
      | false =>
        have := (hx.2 hs).1
        rw [if_pos (Or.inl rfl), if_pos this]
      | true =>
        have := hx.1 hs
        rw [if_neg (by omega : ¬ 0 ≤ nA N 4 v.toNat)]
        by_cases c2 : 0 < dRl (mTd M v.toNat) ∧ hTi (mHi M) - dLr (mTd M v.toNat) < sPer (mTs M v.toNat)
        · have e17 := hc.2.2.2.2.2.2.2.2.1 c2.1
          rw [if_pos (Or.inr c2), e17, if_pos c2]
        · have c2' : ¬ (0 < dRl (mTd M v.toNat) ∧ hTi (mHi M) - nA N 17 v.toNat < sPer (mTs M v.toNat)) := fun q => c2 ⟨q.1, by rw [← hc.2.2.2.2.2.2.2.2.1 q.1]; exact q.2⟩
          rw [if_neg (fun q => q.elim (fun z => nomatch z) c2), if_neg c2']
          by_cases c3 : 8 ≤ dNd (mTd M v.toNat)
          · rw [if_pos c3, if_pos (by omega)]
          · rw [if_neg c3, if_neg (by omega)]
  refine ⟨e, ?_⟩
  unfold evM enM
  rw [← e]
  by_cases c0 : evR M v = 0
  · rw [if_pos c0, if_pos c0]
    have hr : v.toNat < mN M ∧ sSpo (mTs M v.toNat) = true ∧ ¬ (0 < dRl (mTd M v.toNat) ∧ hTi (mHi M) - dLr (mTd M v.toNat) < sPer (mTs M v.toNat)) ∧ dNd (mTd M v.toNat) < 8 := by
      unfold evR at c0
      by_cases c1 : mSt M = false ∨ (v < 0 ∨ (mN M : Int) - 1 < v)
      · rw [if_pos c1] at c0; omega
      · rw [if_neg c1] at c0
        have d1 : ¬ (v < 0 ∨ (mN M : Int) - 1 < v) := fun z => c1 (Or.inr z)
        by_cases c2 : sSpo (mTs M v.toNat) = false ∨ (0 < dRl (mTd M v.toNat) ∧ hTi (mHi M) - dLr (mTd M v.toNat) < sPer (mTs M v.toNat))
        · rw [if_pos c2] at c0; omega
        · rw [if_neg c2] at c0
          refine ⟨by omega, ?_, fun z => c2 (Or.inr z), ?_⟩
          · cases q : sSpo (mTs M v.toNat) with
            | true => rfl
            | false => exact absurd (Or.inl q) c2
          · by_cases c3 : 8 ≤ dNd (mTd M v.toNat)
            · rw [if_pos c3] at c0; omega
            · omega
    obtain ⟨hv, hs, hl, hn8⟩ := hr
    generalize v.toNat = t at hv hs hl hn8
    have hk := hI.2.2.2.2.2.2 t hv
    have kn := hk.2.2.2.2.2.2.2.2.1
    have h10 : nA N 10 t < 8 := by rw [(hR.2 t hv).1.2.2.2.1.1]; exact hn8
    refine ⟨⟨hR.1, fun j hj => ?_⟩, RelZ_rl hZ hv hJ.2.2.1.1, CsI_updTd hI (fun _ => ?_), MoI_lg hJ (fun _ => h10)⟩
    · obtain ⟨hc, hx, hl2⟩ := hR.2 j hj
      by_cases q : j = t
      · subst q
        refine ⟨RelC_rl hc hR.1.2.1 ⟨kn.1, hn8⟩ hk.2.2.2.2.2.2.2.1.1, ?_, ?_⟩
        · unfold RelX
          rw [mTd_upd]
          exact hx
        · rw [jlM_T, mTd_upd]
          show nA N 15 j = jlT (mTs M j) _ (hTi (mHi M))
          rw [jlT_rl ⟨kn.1, hn8⟩ hk.2.2.2.2.2.2.2.1.1 hk.2.2.1.1, hl2, jlM_T]
      · refine ⟨RelC_rn hc q h10 (hI.2.2.2.2.2.2 j hj).2.2.2.2.2.2.2.2.1.2, ?_, ?_⟩
        · unfold RelX
          rw [mTd_upn M _ q]
          exact hx
        · rw [jlM_T, mTd_upn M _ q]
          show nA N 15 j = jlT (mTs M j) _ (hTi (mHi M))
          rw [hl2, jlM_T]
    · have hp := hk.1
      refine hk.rl hI.2.2.1 hn8 (fun z => ?_) hk.2.2.2.2.2.2.1 (fun z => by rw [hs] at z; cases z)
      have : ¬ hTi (mHi M) - dLr (mTd M t) < sPer (mTs M t) := fun y => hl ⟨z, y⟩
      omega
  · rw [if_neg c0, if_neg c0]
    exact ⟨hR, hZ, hI, hJ⟩
