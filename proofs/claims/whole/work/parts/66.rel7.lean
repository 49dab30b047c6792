/-! A unit of time: the releases -/
theorem relS {M : CsM} {N : MoM} {tb ti : Int} {i : Nat} {lo : Nat → Int} (G : RelG M N) (Z : RelZ M N) (hi : i < mN M) (T : ∀ j, j < mN M → RelC M N j ∧ RelX M N j (lo j) (ti + 1 + sPer (mTs M j)) ∧ nA N 15 j = jlM M j) (hti : hTi (mHi M) = ti) (hco : coM N i = decide (sSpo (mTs M i) = false ∧ dNxt (mTd M i) = hTi (mHi M))) (hno : ¬ ((sSpo (mTs M i) = false ∧ dNxt (mTd M i) = hTi (mHi M)) ∧ 8 ≤ dNd (mTd M i))) (I : CsI M tb) (hlo : lo i = ti) :
    RelG (rlS M i) (luS N i) ∧ RelZ (rlS M i) (luS N i) ∧ ∀ j, j < mN M → RelC (rlS M i) (luS N i) j ∧ RelX (rlS M i) (luS N i) j (if j = i then ti + 1 else lo j) (ti + 1 + sPer (mTs M j)) ∧ nA (luS N i) 15 j = jlM (rlS M i) j := by
  have hk := I.2.2.2.2.2.2 i hi
  have kn := hk.2.2.2.2.2.2.2.2.1
  have hp := hk.1
  unfold rlS luS
  by_cases c : sSpo (mTs M i) = false ∧ dNxt (mTd M i) = hTi (mHi M)
  · rw [if_pos c, if_pos (by rw [hco]; exact decide_eq_true c)]
    have hn8 : dNd (mTd M i) < 8 := Int.not_le.mp (fun z => hno ⟨c, z⟩)
    have h10 : nA N 10 i < 8 := by rw [(T i hi).1.2.2.2.1.1]; exact hn8
    refine ⟨G, RelZ_rl Z hi (by rw [G.2.1]; exact I.2.2.1.1), fun j hj => ?_⟩
    obtain ⟨hc, hx, hl⟩ := T j hj
    by_cases q : j = i
    · subst q
      rw [if_pos rfl]
      refine ⟨RelC_rl hc (by rw [G.2.1, c.2]) ⟨kn.1, hn8⟩ hk.2.2.2.2.2.2.2.1.1, ?_, ?_⟩
      · obtain ⟨y1, y2, y3, y4, y5⟩ := hx.2 c.1
        refine ⟨fun z => absurd (z.symm.trans c.1) (by decide), fun _ => ?_⟩
        rw [mTd_upd]
        show 0 ≤ nA N 4 j ∧ nA N 4 j ≤ dNxt (mTd M j) + sPer (mTs M j) ∧ (dNxt (mTd M j) + sPer (mTs M j) - nA N 4 j) % sPer (mTs M j) = 0 ∧ ti + 1 ≤ dNxt (mTd M j) + sPer (mTs M j) ∧ (dNxt (mTd M j) + sPer (mTs M j) = nA N 4 j ∨ dNxt (mTd M j) + sPer (mTs M j) < ti + 1 + sPer (mTs M j))
        refine ⟨y1, by omega, ?_, by omega, Or.inr (by omega)⟩
        have e : dNxt (mTd M j) + sPer (mTs M j) - nA N 4 j = (dNxt (mTd M j) - nA N 4 j) + sPer (mTs M j) := by omega
        rw [e, Int.add_emod_right]
        exact y3
      · rw [jlM_T, mTd_upd]
        show nA N 15 j = jlT (mTs M j) _ (hTi (mHi M))
        rw [c.2, jlT_rl ⟨kn.1, hn8⟩ hk.2.2.2.2.2.2.2.1.1 hk.2.2.1.1, hl, jlM_T]
    · rw [if_neg q]
      refine ⟨RelC_rn hc q h10 (I.2.2.2.2.2.2 j hj).2.2.2.2.2.2.2.2.1.2, ?_, ?_⟩
      · unfold RelX
        rw [mTd_upn M _ q]
        exact hx
      · rw [jlM_T, mTd_upn M _ q]
        show nA N 15 j = jlT (mTs M j) _ (hTi (mHi M))
        rw [hl, jlM_T]
  · rw [if_neg c, if_neg (by rw [hco]; exact fun z => c (of_decide_eq_true z))]
    refine ⟨G, Z, fun j hj => ?_⟩
    obtain ⟨hc, hx, hl⟩ := T j hj
    refine ⟨hc, ?_, hl⟩
    by_cases q : j = i
    · subst q
      rw [if_pos rfl]
      refine ⟨hx.1, fun z => ?_⟩
      obtain ⟨y1, y2, y3, y4, y5⟩ := hx.2 z
      have : ¬ dNxt (mTd M j) = hTi (mHi M) := fun y => c ⟨z, y⟩
      exact ⟨y1, y2, y3, by omega, y5⟩
    · rw [if_neg q]; exact hx
theorem relI {M : CsM} {N : MoM} {tb : Int} (hR : Rel M N) (hZ : RelZ M N) (hI : CsI M tb) (hs : stM M = false) : ∀ i, i ≤ mN M → RelG (rlI M i) (luI N i) ∧ RelZ (rlI M i) (luI N i) ∧ ∀ j, j < mN M → RelC (rlI M i) (luI N i) j ∧ RelX (rlI M i) (luI N i) j (if j < i then hTi (mHi M) + 1 else hTi (mHi M)) (hTi (mHi M) + 1 + sPer (mTs M j)) ∧ nA (luI N i) 15 j = jlM (rlI M i) j
  | 0, _ => ⟨hR.1, hZ, fun j hj => ⟨(hR.2 j hj).1, ⟨(hR.2 j hj).2.1.1, fun z => by
      obtain ⟨y1, y2, y3, y4, y5⟩ := (hR.2 j hj).2.1.2 z
      rw [if_neg (Nat.not_lt_zero _)]
      exact ⟨y1, y2, y3, y4, y5.elim Or.inl (fun q => Or.inr (show dNxt (mTd M j) < _ by omega))⟩⟩, (hR.2 j hj).2.2⟩⟩
  | i + 1, hi => by
    obtain ⟨G, Z, T⟩ := relI hR hZ hI hs i (by omega)
    obtain ⟨g1, g2, g3, g4, g5, g6, g7⟩ := rlI_same M i
    have gd := rlI_ge M i i (Nat.le_refl _)
    have I1 := CsI_rlI hI hs i (by omega)
    have hk := hI.2.2.2.2.2.2 i (by omega)
    have e := coM_eq hk.1.1 (hR.2 i (by omega)).1.1.1 hR.1.2.1 (hR.2 i (by omega)).2.1
    have hco : coM (luI N i) i = decide (sSpo (mTs (rlI M i) i) = false ∧ dNxt (mTd (rlI M i) i) = hTi (mHi (rlI M i))) := by rw [coM_luI, e, g2, g6, gd]
    have hno : ¬ ((sSpo (mTs (rlI M i) i) = false ∧ dNxt (mTd (rlI M i) i) = hTi (mHi (rlI M i))) ∧ 8 ≤ dNd (mTd (rlI M i) i)) := by rw [g2, g6, gd]; exact stM_no hs (by omega)
    obtain ⟨G', Z', T'⟩ := relS (ti := hTi (mHi M)) (lo := fun j => if j < i then hTi (mHi M) + 1 else hTi (mHi M)) G Z (by rw [g1]; omega) (fun j hj => by rw [g2]; exact T j (by rw [g1] at hj; exact hj)) (by rw [g6]) hco hno I1 (if_neg (Nat.lt_irrefl _))
    refine ⟨G', Z', fun j hj => ?_⟩
    obtain ⟨t1, t2, t3⟩ := T' j (by rw [g1]; exact hj)
    refine ⟨t1, ?_, t3⟩
    have el : (if j < i + 1 then hTi (mHi M) + 1 else hTi (mHi M)) = if j = i then hTi (mHi M) + 1 else if j < i then hTi (mHi M) + 1 else hTi (mHi M) := by
      by_cases q : j = i
      · rw [if_pos q, if_pos (by omega)]
      · rw [if_neg q]
        by_cases q2 : j < i
        · rw [if_pos q2, if_pos (by omega)]
        · rw [if_neg q2, if_neg (by omega)]
    rw [el]
    rw [g2] at t2
    exact t2
/-! Late jobs as time goes -/
theorem jlT_step {x : TkS} {d : TkD} {ti : Int} : jlT x d (ti + 1) = jlT x d ti + ctF (fun j => decide (dRel d ((dFr d + (j : Int)) % 8).toNat + sDdl x = ti + 1)) (dNd d).toNat 0 := by
  unfold jlT
  rw [ctF_add (p := lt1 d (ti + 1) (sDdl x)) (q := lt1 d ti (sDdl x)) (r := fun j => decide (dRel d ((dFr d + (j : Int)) % 8).toNat + sDdl x = ti + 1)) (dNd d).toNat 0, Int.add_assoc]
  intro j _ _
  unfold lt1
  simp only [decide_eq_true_eq]
  generalize dRel d ((dFr d + (j : Int)) % 8).toNat = r
  by_cases c1 : sDdl x ≤ ti - r
  · rw [if_pos c1, if_pos (by omega), if_neg (by omega)]; rfl
  · rw [if_neg c1]
    by_cases c2 : r + sDdl x = ti + 1
    · rw [if_pos c2, if_pos (by omega)]; rfl
    · rw [if_neg c2, if_neg (by omega)]; rfl
theorem jlT_du {x : TkS} {d : TkD} {ti : Int} (hn : 0 < dNd d) (hf : 0 ≤ dFr d ∧ dFr d < 8) : jlT x (duD x d (ti + 1)) ti = jlT x d ti := by
  by_cases c : dUf d + 1 < sCst x
  · have e : duD x d (ti + 1) = (dNxt d, dRel d, dFr d, dNd d, dUf d + 1, dRl d, dLr d, dDl d, dGr d) := by
      unfold duD
      rw [if_pos c, if_pos c, if_pos c, if_pos c, if_pos c]
    rw [e]
    rfl
  · have e : duD x d (ti + 1) = (dNxt d, dRel d, (dFr d + 1) % 8, dNd d - 1, 0, dRl d, dLr d, if sDdl x < ti + 1 - dRel d (dFr d).toNat then dDl d + 1 else dDl d, max (dGr d) (ti + 1 - dRel d (dFr d).toNat)) := by
      unfold duD
      rw [if_neg c, if_neg c, if_neg c, if_neg c, if_neg c]
    rw [e]
    unfold jlT
    show (if sDdl x < ti + 1 - dRel d (dFr d).toNat then dDl d + 1 else dDl d) + ctF _ (dNd d - 1).toNat 0 = _
    have en : (dNd d).toNat = (dNd d - 1).toNat + 1 := by omega
    rw [en, ctF, ctF_shift]
    have e1 : ctF (lt1 (dNxt d, dRel d, (dFr d + 1) % 8, dNd d - 1, 0, dRl d, dLr d, if sDdl x < ti + 1 - dRel d (dFr d).toNat then dDl d + 1 else dDl d, max (dGr d) (ti + 1 - dRel d (dFr d).toNat)) ti (sDdl x)) (dNd d - 1).toNat 0 = ctF (fun j => lt1 d ti (sDdl x) (j + 1)) (dNd d - 1).toNat 0 := by
      refine ctF_congr _ _ (fun j _ _ => ?_)
      unfold lt1
      show decide (sDdl x ≤ ti - dRel d (((dFr d + 1) % 8 + (j : Int)) % 8).toNat) = _
      have : ((dFr d + 1) % 8 + (j : Int)) % 8 = (dFr d + ((j + 1 : Nat) : Int)) % 8 := by omega
      rw [this]
    rw [e1]
    have e2 : (lt1 d ti (sDdl x) 0 = true) ↔ sDdl x < ti + 1 - dRel d (dFr d).toNat := by
      unfold lt1
      rw [decide_eq_true_eq]
      have : (dFr d + ((0 : Nat) : Int)) % 8 = dFr d := by omega
      rw [this]
      omega
    by_cases c2 : sDdl x < ti + 1 - dRel d (dFr d).toNat
    · rw [if_pos c2, if_pos (e2.mpr c2)]; omega
    · rw [if_neg c2, if_neg (fun q => c2 (e2.mp q))]; omega
theorem ltK_ct {N : MoM} {i b : Nat} : ∀ (f k : Nat) (x : Int), ltK N i f (b + k) x = x + ctF (fun j => decide (nA N 11 (b + j) + nA N 2 i = nTi N)) f k
  | 0, _, x => (Int.add_zero x).symm
  | f + 1, k, x => by
    rw [ltK, ctF]
    have := ltK_ct (N := N) (i := i) (b := b) f (k + 1) (if nA N 11 (b + k) + nA N 2 i = nTi N then x + 1 else x)
    rw [← Nat.add_assoc] at this
    rw [this]
    by_cases c : nA N 11 (b + k) + nA N 2 i = nTi N
    · rw [if_pos c, if_pos (decide_eq_true c)]; omega
    · rw [if_neg c, if_neg (fun q => c (of_decide_eq_true q))]; omega
theorem ltK_congr {N N' : MoM} {i : Nat} (h1 : nA N' 11 = nA N 11) (h2 : nA N' 2 = nA N 2) (h3 : nTi N' = nTi N) : ∀ (f k : Nat) (x : Int), ltK N' i f k x = ltK N i f k x
  | 0, _, _ => rfl
  | f + 1, k, x => by rw [ltK, ltK, h1, h2, h3, ltK_congr h1 h2 h3 f (k + 1)]
theorem ltI_rest (N : MoM) : ∀ i, nId (ltI N i) = nId N ∧ nSw (ltI N i) = nSw N ∧ nLa (ltI N i) = nLa N ∧ nBu (ltI N i) = nBu N ∧ nSt (ltI N i) = nSt N
  | 0 => ⟨rfl, rfl, rfl, rfl, rfl⟩
  | i + 1 => ltI_rest N i
theorem ltI_15 (N : MoM) : ∀ (n j : Nat), nA (ltI N n) 15 j = if j < n then ltK N j (nA N 10 j).toNat (j * 8) (nA N 15 j) else nA N 15 j
  | 0, j => by rw [if_neg (Nat.not_lt_zero _)]; rfl
  | n + 1, j => by
    obtain ⟨h1, h2, h3⟩ := ltI_same N n
    show va_up (nA (ltI N n) 15) n (ltK (ltI N n) n (nA (ltI N n) 10 n).toNat (n * 8) (nA (ltI N n) 15 n)) j = _
    by_cases q : j = n
    · rw [q, va_up_s, if_pos (Nat.lt_succ_self n), ltK_congr (h3 11 (by decide)) (h3 2 (by decide)) h2, h3 10 (by decide), ltI_15 N n n, if_neg (Nat.lt_irrefl _)]
    · rw [va_up_n _ _ q, ltI_15 N n j]
      by_cases q2 : j < n
      · rw [if_pos q2, if_pos (by omega)]
      · rw [if_neg q2, if_neg (by omega)]
/-! Work -/
theorem shI_out (f : Nat → Int) (x : Nat) : ∀ (i j : Nat), (j < x ∨ x + i ≤ j) → shI f x i j = f j
  | 0, _, _ => rfl
  | i + 1, j, h => by rw [shI, va_up_n _ _ (by omega)]; exact shI_out f x i j (by omega)
theorem shI_in (f : Nat → Int) (x : Nat) : ∀ (i k : Nat), k < i → shI f x i (x + k) = f (x + k + 1)
  | 0, _, h => absurd h (by omega)
  | i + 1, k, h => by
    rw [shI]
    by_cases q : k = i
    · subst q; rw [va_up_s]; exact shI_out f x k _ (by omega)
    · rw [va_up_n _ _ (by omega)]; exact shI_in f x i k (by omega)
theorem RelC_wk {M : CsM} {N : MoM} {t : Nat} {ti : Int} {H : HiS} (h : RelC M N t) (ht : nTi N = ti) (hn : 0 < dNd (mTd M t) ∧ dNd (mTd M t) ≤ 8) (hf : 0 ≤ dFr (mTd M t) ∧ dFr (mTd M t) < 8) : RelC (updTd (setHi M H) t (duD (mTs M t) (mTd M t) (ti + 1))) (wkM N t) t := by
  have hfr := frM_eq h hf hn.1
  unfold frM at hfr
  obtain ⟨r1, r2, r3, ⟨r4, r5⟩, r6, r7, r8, r9, rA, rB⟩ := h
  unfold RelC
  rw [mTd_upd]
  unfold wkM
  rw [r6, r1.2.1]
  by_cases c : dUf (mTd M t) + 1 < sCst (mTs M t)
  · have e : duD (mTs M t) (mTd M t) (ti + 1) = (dNxt (mTd M t), dRel (mTd M t), dFr (mTd M t), dNd (mTd M t), dUf (mTd M t) + 1, dRl (mTd M t), dLr (mTd M t), dDl (mTd M t), dGr (mTd M t)) := by
      unfold duD
      rw [if_pos c, if_pos c, if_pos c, if_pos c, if_pos c]
    rw [if_pos c, e]
    refine ⟨r1, r2, r3, ⟨r4, r5⟩, ?_, r7, r8, r9, rA, fun q => ?_⟩
    · show va_up (nA N 12) t (nA N 12 t + 1) t = dUf (mTd M t) + 1
      rw [va_up_s, r6]
    · have : dNd (mTd M t) = 0 := q
      omega
  · have e : duD (mTs M t) (mTd M t) (ti + 1) = (dNxt (mTd M t), dRel (mTd M t), (dFr (mTd M t) + 1) % 8, dNd (mTd M t) - 1, 0, dRl (mTd M t), dLr (mTd M t), if sDdl (mTs M t) < ti + 1 - dRel (mTd M t) (dFr (mTd M t)).toNat then dDl (mTd M t) + 1 else dDl (mTd M t), max (dGr (mTd M t)) (ti + 1 - dRel (mTd M t) (dFr (mTd M t)).toNat)) := by
      unfold duD
      rw [if_neg c, if_neg c, if_neg c, if_neg c, if_neg c]
    rw [if_neg c, e]
    refine ⟨r1, r2, r3, ⟨?_, fun k hk => ?_⟩, ?_, r7, ?_, ?_, rA, fun _ => rfl⟩
    · show va_up (nA N 10) t (nA N 10 t - 1) t = dNd (mTd M t) - 1
      rw [va_up_s, r4]
    · have hk' : (k : Int) < dNd (mTd M t) - 1 := hk
      show shI (nA N 11) (t * 8) 7 (t * 8 + k) = dRel (mTd M t) (((dFr (mTd M t) + 1) % 8 + (k : Int)) % 8).toNat
      rw [shI_in _ _ 7 k (by omega)]
      have e2 : ((dFr (mTd M t) + 1) % 8 + (k : Int)) % 8 = (dFr (mTd M t) + ((k + 1 : Nat) : Int)) % 8 := by omega
      rw [e2]
      exact r5 (k + 1) (by omega)
    · show va_up (va_up (nA N 12) t (nA N 12 t + 1)) t 0 t = 0
      rw [va_up_s]
    · show va_up (nA N 14) t (nA N 14 t + 1) t = dRl (mTd M t) - (dNd (mTd M t) - 1)
      rw [va_up_s, r8]; omega
    · show (if nA N 16 t < nTi N + 1 - nA N 11 (t * 8) then va_up (nA N 16) t (nTi N + 1 - nA N 11 (t * 8)) else nA N 16) t = max (dGr (mTd M t)) (ti + 1 - dRel (mTd M t) (dFr (mTd M t)).toNat)
      rw [hfr, ht, r9]
      by_cases c2 : dGr (mTd M t) < ti + 1 - dRel (mTd M t) (dFr (mTd M t)).toNat
      · rw [if_pos c2, va_up_s]; omega
      · rw [if_neg c2, r9]; omega
theorem wkM_at (N : MoM) {t j : Nat} (hj : j ≠ t) : (∀ k, k ≠ 11 → nA (wkM N t) k j = nA N k j) ∧ ∀ k : Nat, k < 8 → nA (wkM N t) 11 (j * 8 + k) = nA N 11 (j * 8 + k) := by
  unfold wkM
  split
  · refine ⟨fun k hk => ?_, fun k hk => rfl⟩
    show va_up (nA N) 12 (va_up (nA N 12) t (nA N 12 t + 1)) k j = _
    by_cases q : k = 12
    · rw [q, va_up_s, va_up_n _ _ hj]
    · rw [va_up_n _ _ q]
  · refine ⟨fun k hk => ?_, fun k hk => ?_⟩
    · show va_up (va_up (va_up (va_up (nA (wkW N t)) 11 _) 10 (va_up (nA N 10) t _)) 12 (va_up (va_up (nA N 12) t _) t 0)) 14 (va_up (nA N 14) t _) k j = _
      by_cases q1 : k = 14
      · rw [q1, va_up_s, va_up_n _ _ hj]
      · rw [va_up_n _ _ q1]
        by_cases q2 : k = 12
        · rw [q2, va_up_s, va_up_n _ _ hj, va_up_n _ _ hj]
        · rw [va_up_n _ _ q2]
          by_cases q3 : k = 10
          · rw [q3, va_up_s, va_up_n _ _ hj]
          · rw [va_up_n _ _ q3, va_up_n _ _ hk]
            show va_up (va_up (nA N) 12 _) 16 (if nA N 16 t < nTi N + 1 - nA N 11 (t * 8) then va_up (nA N 16) t (nTi N + 1 - nA N 11 (t * 8)) else nA N 16) k j = _
            by_cases q4 : k = 16
            · rw [q4, va_up_s]
              split
              · rw [va_up_n _ _ hj]
              · rfl
            · rw [va_up_n _ _ q4, va_up_n _ _ q2]
    · show shI (nA N 11) (t * 8) 7 (j * 8 + k) = _
      exact shI_out _ _ 7 _ (by omega)
theorem wkM_k (N : MoM) (t : Nat) {k : Nat} (h1 : k ≠ 10) (h2 : k ≠ 11) (h3 : k ≠ 12) (h4 : k ≠ 14) (h5 : k ≠ 16) : nA (wkM N t) k = nA N k := by
  unfold wkM
  split
  · exact va_up_n (nA N) _ h3
  · show va_up (va_up (va_up (va_up (va_up (va_up (nA N) 12 _) 16 _) 11 _) 10 _) 12 _) 14 _ k = _
    rw [va_up_n _ _ h4, va_up_n _ _ h3, va_up_n _ _ h1, va_up_n _ _ h2, va_up_n _ _ h5, va_up_n _ _ h3]
theorem wkM_r (N : MoM) (t : Nat) : nId (wkM N t) = nId N ∧ nSw (wkM N t) = (if (t : Int) = nBu N then nSw N else nSw N + 1) ∧ nBu (wkM N t) = (t : Int) ∧ nSt (wkM N t) = nSt N := by
  unfold wkM
  split
  · exact ⟨rfl, rfl, rfl, rfl⟩
  · exact ⟨rfl, rfl, rfl, rfl⟩
