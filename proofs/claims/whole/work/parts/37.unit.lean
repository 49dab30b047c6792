/-! A unit of time -/
def rlS (M : CsM) (i : Nat) : CsM := if sSpo (mTs M i) = false ∧ dNxt (mTd M i) = hTi (mHi M) then updTd M i (rlD (mTd M i) (dNxt (mTd M i) + sPer (mTs M i)) (dNxt (mTd M i))) else M
def rlI (M : CsM) : Nat → CsM
  | 0 => M
  | i + 1 => rlS (rlI M i) i
def hiP (h : HiS) (x : Int) : HiS := (va_up (hOf h) (hTi h % 64).toNat x, hTi h + 1, if x = -3 then hId h + 1 else hId h, if x = -3 ∨ x = hLn h then hSw h else hSw h + 1, x, if x = -3 then hLn h else x)
def duD (x : TkS) (d : TkD) (ti : Int) : TkD := (dNxt d, dRel d, if dUf d + 1 < sCst x then dFr d else (dFr d + 1) % 8, if dUf d + 1 < sCst x then dNd d else dNd d - 1, if dUf d + 1 < sCst x then dUf d + 1 else 0, dRl d, dLr d, if dUf d + 1 < sCst x then dDl d else (if sDdl x < ti - dRel d (dFr d).toNat then dDl d + 1 else dDl d), if dUf d + 1 < sCst x then dGr d else max (dGr d) (ti - dRel d (dFr d).toNat))
def puA (M : CsM) : CsM := setHi (rlI M (mN M)) (hiP (mHi (rlI M (mN M))) (chM (rlI M (mN M))))
def puM (M : CsM) : CsM := if chM (rlI M (mN M)) = -3 then puA M else updTd (puA M) (chM (rlI M (mN M))).toNat (duD (mTs (puA M) (chM (rlI M (mN M))).toNat) (mTd (puA M) (chM (rlI M (mN M))).toNat) (hTi (mHi (puA M))))
theorem rlS_same (M : CsM) (i : Nat) : mN (rlS M i) = mN M ∧ mTs (rlS M i) = mTs M ∧ mNs (rlS M i) = mNs M ∧ mSc (rlS M i) = mSc M ∧ mCe (rlS M i) = mCe M ∧ mHi (rlS M i) = mHi M ∧ mSt (rlS M i) = mSt M := by
  unfold rlS
  split
  · exact ⟨rfl, rfl, rfl, rfl, rfl, rfl, rfl⟩
  · exact ⟨rfl, rfl, rfl, rfl, rfl, rfl, rfl⟩
theorem rlI_same (M : CsM) : ∀ i, mN (rlI M i) = mN M ∧ mTs (rlI M i) = mTs M ∧ mNs (rlI M i) = mNs M ∧ mSc (rlI M i) = mSc M ∧ mCe (rlI M i) = mCe M ∧ mHi (rlI M i) = mHi M ∧ mSt (rlI M i) = mSt M
  | 0 => ⟨rfl, rfl, rfl, rfl, rfl, rfl, rfl⟩
  | i + 1 => by
    obtain ⟨h1, h2, h3, h4, h5, h6, h7⟩ := rlI_same M i
    obtain ⟨g1, g2, g3, g4, g5, g6, g7⟩ := rlS_same (rlI M i) i
    exact ⟨g1.trans h1, g2.trans h2, g3.trans h3, g4.trans h4, g5.trans h5, g6.trans h6, g7.trans h7⟩
theorem rlI_ge (M : CsM) : ∀ (i j : Nat), i ≤ j → mTd (rlI M i) j = mTd M j
  | 0, _, _ => rfl
  | i + 1, j, h => by
    rw [← rlI_ge M i j (by omega)]
    show mTd (rlS (rlI M i) i) j = _
    unfold rlS
    split
    · exact mTd_upn _ _ (by omega)
    · rfl
theorem stF_no (M : CsM) : ∀ (f i : Nat), stF M f i = false → ∀ j, i ≤ j → j < i + f → ¬ ((sSpo (mTs M j) = false ∧ dNxt (mTd M j) = hTi (mHi M)) ∧ 8 ≤ dNd (mTd M j))
  | 0, _, _, j, h1, h2 => absurd h2 (by omega)
  | f + 1, i, h, j, h1, h2 => by
    rw [stF] at h
    by_cases c : (sSpo (mTs M i) = false ∧ dNxt (mTd M i) = hTi (mHi M)) ∧ 8 ≤ dNd (mTd M i)
    · rw [if_pos c] at h; cases h
    · rw [if_neg c] at h
      by_cases e : j = i
      · subst e; exact c
      · exact stF_no M f (i + 1) h j (by omega) (by omega)
theorem stM_no {M : CsM} (h : stM M = false) {j : Nat} (hj : j < mN M) : ¬ ((sSpo (mTs M j) = false ∧ dNxt (mTd M j) = hTi (mHi M)) ∧ 8 ≤ dNd (mTd M j)) := stF_no M (mN M) 0 h j (Nat.zero_le _) (by omega)
theorem CsI_updTd {M : CsM} {tb : Int} (h : CsI M tb) {i : Nat} {d : TkD} (hd : i < mN M → TkI (mTs M i) (mNs M i) (mSc M i) d tb) : CsI (updTd M i d) tb := by
  obtain ⟨h1, h2, h3, h4, h5, h6, h7⟩ := h
  refine ⟨h1, h2, h3, h4, h5, h6, fun j hj => ?_⟩
  by_cases e : j = i
  · subst e; rw [mTd_upd]; exact hd hj
  · rw [mTd_upn M d e]; exact h7 j hj
theorem TkI.rl {x : TkS} {ns : Nat} {S : Nat → SecT} {d : TkD} {tb ti nx : Int} (h : TkI x ns S d tb) (h0 : 0 ≤ ti ∧ ti ≤ tb) (hn : dNd d < 8) (hl : 0 < dRl d → dLr d < ti) (hx : -1 ≤ nx ∧ nx ≤ tb + 60) (hx2 : sSpo x = false → ti < nx) : TkI x ns S (rlD d nx ti) tb := by
  obtain ⟨a1, a2, a3, a4, a5, a6, a7, a8, a9, b1, b2, b3, b4, b5, b6⟩ := h
  refine ⟨a1, a2, a3, a4, a5, a6, hx, a8, ?_, b1, ?_, h0, b4, ?_, fun z _ => hx2 z⟩
  · show 0 ≤ dNd d + 1 ∧ dNd d + 1 ≤ 8; omega
  · show 0 ≤ dRl d + 1 ∧ dRl d + 1 ≤ ti + 1
    by_cases c : 0 < dRl d
    · have := hl c; omega
    · omega
  · intro k
    show 0 ≤ va_up (dRel d) _ ti k ∧ va_up (dRel d) _ ti k ≤ tb
    by_cases e : k = ((dFr d + dNd d) % 8).toNat
    · rw [e, va_up_s]; exact h0
    · rw [va_up_n _ _ e]; exact b5 k
theorem CsI_rlS {M : CsM} {tb : Int} (h : CsI M tb) {i : Nat} (hn : i < mN M → ¬ ((sSpo (mTs M i) = false ∧ dNxt (mTd M i) = hTi (mHi M)) ∧ 8 ≤ dNd (mTd M i))) : CsI (rlS M i) tb := by
  unfold rlS
  split
  · rename_i c
    refine CsI_updTd h (fun hi => ?_)
    have hk := h.2.2.2.2.2.2 i hi
    have ht := h.2.2.1
    have hp := hk.1
    have hnd : dNd (mTd M i) < 8 := Int.not_le.mp (fun z => hn hi ⟨c, z⟩)
    refine hk.rl (by rw [c.2]; exact ht) hnd (hk.2.2.2.2.2.2.2.2.2.2.2.2.2.2 c.1) ?_ (fun _ => by omega)
    rw [c.2]; omega
  · exact h
theorem chF_spec (M : CsM) : ∀ (f i : Nat) (k : Int), i + f ≤ mN M → (k = -3 ∨ ∃ b : Nat, b < mN M ∧ k = (b : Int) ∧ dNd (mTd M b) ≠ 0) → chF M f i k = -3 ∨ ∃ b : Nat, b < mN M ∧ chF M f i k = (b : Int) ∧ dNd (mTd M b) ≠ 0
  | 0, _, _, _, h => h
  | f + 1, i, k, hi, h => by
    rw [chF]
    refine chF_spec M f (i + 1) _ (by omega) ?_
    split
    · rename_i c
      exact Or.inr ⟨i, by omega, rfl, c.1⟩
    · exact h
theorem chM_spec (M : CsM) : chM M = -3 ∨ ∃ b : Nat, b < mN M ∧ chM M = (b : Int) ∧ dNd (mTd M b) ≠ 0 := chF_spec M (mN M) 0 (-3) (by omega) (Or.inl rfl)
theorem CsI_setHi {M : CsM} {tb x : Int} (h : CsI M tb) (hl : hTi (mHi M) < tb) (hx : -3 ≤ x ∧ x ≤ 6) : CsI (setHi M (hiP (mHi M) x)) tb := by
  obtain ⟨h1, h2, h3, h4, h5, h6, h7⟩ := h
  refine ⟨h1, h2, ?_, hx, ?_, h6, h7⟩
  · show 0 ≤ hTi (mHi M) + 1 ∧ hTi (mHi M) + 1 ≤ tb; omega
  · show -3 ≤ (if x = -3 then hLn (mHi M) else x) ∧ (if x = -3 then hLn (mHi M) else x) ≤ 6
    split
    · exact h5
    · exact hx
theorem TkI.du {x : TkS} {ns : Nat} {S : Nat → SecT} {d : TkD} {tb ti : Int} (h : TkI x ns S d tb) (h0 : 0 ≤ ti ∧ ti ≤ tb) (hn : dNd d ≠ 0) : TkI x ns S (duD x d ti) tb := by
  obtain ⟨a1, a2, a3, a4, a5, a6, a7, a8, a9, b1, b2, b3, b4, b5, b6⟩ := h
  have hr := b5 (dFr d).toNat
  refine ⟨a1, a2, a3, a4, a5, a6, a7, ?_, ?_, ?_, b2, b3, ?_, b5, b6⟩
  · show 0 ≤ (if dUf d + 1 < sCst x then dFr d else (dFr d + 1) % 8) ∧ (if dUf d + 1 < sCst x then dFr d else (dFr d + 1) % 8) < 8
    split <;> omega
  · show 0 ≤ (if dUf d + 1 < sCst x then dNd d else dNd d - 1) ∧ (if dUf d + 1 < sCst x then dNd d else dNd d - 1) ≤ 8
    split <;> omega
  · show 0 ≤ (if dUf d + 1 < sCst x then dUf d + 1 else 0) ∧ (if dUf d + 1 < sCst x then dUf d + 1 else 0) < 60
    split <;> omega
  · show 0 ≤ (if dUf d + 1 < sCst x then dGr d else max (dGr d) (ti - dRel d (dFr d).toNat)) ∧ (if dUf d + 1 < sCst x then dGr d else max (dGr d) (ti - dRel d (dFr d).toNat)) ≤ tb
    split <;> omega
theorem CsI_rlI {M : CsM} {tb : Int} (h : CsI M tb) (hs : stM M = false) : ∀ i, i ≤ mN M → CsI (rlI M i) tb
  | 0, _ => h
  | i + 1, hi => by
    refine CsI_rlS (CsI_rlI h hs i (by omega)) (fun _ => ?_)
    obtain ⟨g1, g2, g3, g4, g5, g6, g7⟩ := rlI_same M i
    rw [g2, g6, rlI_ge M i i (Nat.le_refl _)]
    exact stM_no hs (by omega)
theorem CsI_puA {M : CsM} {tb : Int} (h : CsI M tb) (hs : stM M = false) (hl : hTi (mHi M) < tb) : CsI (puA M) tb := by
  refine CsI_setHi (CsI_rlI h hs (mN M) (Nat.le_refl _)) (by rw [(rlI_same M (mN M)).2.2.2.2.2.1]; exact hl) ?_
  have hn := h.2.1
  rcases chM_spec (rlI M (mN M)) with z | ⟨b, z1, z2, -⟩
  · omega
  · rw [(rlI_same M (mN M)).1] at z1
    omega
theorem CsI_puM {M : CsM} {tb : Int} (h : CsI M tb) (hs : stM M = false) (hl : hTi (mHi M) < tb) : CsI (puM M) tb := by
  unfold puM
  split
  · exact CsI_puA h hs hl
  · rename_i c
    obtain ⟨b, z1, z2, z3⟩ := (chM_spec (rlI M (mN M))).resolve_left c
    rw [z2]
    refine CsI_updTd (CsI_puA h hs hl) (fun hb => ((CsI_puA h hs hl).2.2.2.2.2.2 _ hb).du (CsI_puA h hs hl).2.2.1 ?_)
    exact z3
theorem puM_same (M : CsM) : mN (puM M) = mN M ∧ mTs (puM M) = mTs M ∧ mNs (puM M) = mNs M ∧ mSc (puM M) = mSc M ∧ mCe (puM M) = mCe M ∧ mSt (puM M) = mSt M ∧ hTi (mHi (puM M)) = hTi (mHi M) + 1 := by
  obtain ⟨g1, g2, g3, g4, g5, g6, g7⟩ := rlI_same M (mN M)
  have e : hTi (mHi (rlI M (mN M))) + 1 = hTi (mHi M) + 1 := by rw [g6]
  unfold puM
  split
  · exact ⟨g1, g2, g3, g4, g5, g7, e⟩
  · exact ⟨g1, g2, g3, g4, g5, g7, e⟩
/-- units: how many of f pass, and the state behind -/
def tkF : Nat → CsM → Nat × CsM
  | 0, M => (0, M)
  | f + 1, M => if stM M = true then (0, M) else ((tkF f (puM M)).1 + 1, (tkF f (puM M)).2)
def tkR (M : CsM) (n : Int) : Int := if mSt M = false ∨ (n < 1 ∨ 200 < n) then -1 else if (tkF n.toNat M).1 = 0 then -2 else ((tkF n.toNat M).1 : Int)
def tkM (M : CsM) (n : Int) : CsM := if mSt M = false ∨ (n < 1 ∨ 200 < n) then M else (tkF n.toNat M).2
