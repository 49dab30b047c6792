/-! What the two answer without a change -/
theorem tl_eq {M : CsM} {N : MoM} {tb : Int} (hR : Rel M N) (hI : CsI M tb) (v wh : Int) : tlM M v wh = tnM N v wh := by
  unfold tlM tnM
  rw [hR.1.1]
  by_cases c : v < 0 ∨ (mN M : Int) ≤ v
  · rw [if_pos (by omega), if_pos (Or.inl c)]
  · rw [if_neg (by omega)]
    by_cases c2 : wh < 0 ∨ 6 < wh
    · rw [if_pos (Or.inr c2), tlN_out c2]
    · rw [if_neg (fun q => q.elim c c2)]
      have hv : v.toNat < mN M := by omega
      obtain ⟨hc, -, hl⟩ := hR.2 _ hv
      have hk := hI.2.2.2.2.2.2 _ hv
      have kn := hk.2.2.2.2.2.2.2.2.1
      have h10 := hc.2.2.2.1.1
      unfold tlN tnN
      rw [hc.2.2.2.2.2.1, hc.2.2.2.2.2.2.1, hl, hc.2.2.2.2.2.2.2.1, h10, hc.2.2.2.2.1]
      by_cases d0 : wh = 0
      · rw [if_pos d0, if_pos d0]
      rw [if_neg d0, if_neg d0]
      by_cases d1 : wh = 1
      · rw [if_pos d1, if_pos d1]
      rw [if_neg d1, if_neg d1]
      by_cases d2 : wh = 2
      · rw [if_pos d2, if_pos d2]
      rw [if_neg d2, if_neg d2]
      by_cases d3 : wh = 3
      · rw [if_pos d3, if_pos d3]
      rw [if_neg d3, if_neg d3]
      by_cases n0 : dNd (mTd M v.toNat) = 0
      · rw [if_pos n0, if_pos n0, if_pos n0, if_pos n0]
        by_cases d4 : wh = 4
        · rw [if_pos d4]
        by_cases d5 : wh = 5
        · rw [if_neg d4, if_pos d5]
        rw [if_neg d4, if_neg d5, if_pos (by omega)]
      · rw [if_neg n0, if_neg n0, if_neg n0, if_neg n0]
        by_cases d4 : wh = 4
        · rw [if_pos d4, if_pos d4]
        rw [if_neg d4, if_neg d4]
        by_cases d5 : wh = 5
        · rw [if_pos d5, if_pos d5, anM_eq hc hk.2.2.2.2.2.1 kn.1 hR.1.2.2.2.2.2.2.2.1]
        rw [if_neg d5, if_neg d5, if_pos (by omega), frM_eq hc hk.2.2.2.2.2.2.2.1 (by omega)]
theorem hoF_eq {M : CsM} {N : MoM} {tb : Int} (hR : Rel M N) (hI : CsI M tb) {ob : Int} (ho : 0 ≤ ob) : ∀ (f i : Nat), i + f = mN M → hoF M ob f i = hnF N ob f i
  | 0, _, _ => rfl
  | f + 1, i, h => by
    have hk := hI.2.2.2.2.2.2 i (by omega)
    have e := heM_eq (hR.2 i (by omega)).1 hk.2.2.2.2.2.1 hk.2.2.2.2.2.2.2.2.1.1
    rw [hoF, hnF, hoF_eq hR hI ho f (i + 1) (by omega)]
    by_cases c : hdM M i = ob
    · have c' : heM N i = ob := by rw [e, if_neg (by omega)]; exact c
      rw [if_pos c, if_pos c']
    · have c' : ¬ heM N i = ob := by rw [e]; split <;> omega
      rw [if_neg c, if_neg c']
theorem ho_eq {M : CsM} {N : MoM} {tb : Int} (hR : Rel M N) (hI : CsI M tb) (ob : Int) : hoM M ob = hnM N ob := by
  unfold hoM hnM
  by_cases c : ob < 0 ∨ 3 < ob
  · rw [if_pos c, if_pos c]
  · rw [if_neg c, if_neg c, hR.1.1]
    exact hoF_eq hR hI (by omega) (mN M) 0 (by omega)
theorem bl_eq {M : CsM} {N : MoM} {tb : Int} (hR : Rel M N) (hI : CsI M tb) (v : Int) : blM M v = bvM N v := by
  unfold blM bvM
  rw [hR.1.1]
  by_cases c : v < 0 ∨ (mN M : Int) ≤ v
  · rw [if_pos (by omega), if_pos c]
  · rw [if_neg (by omega), if_neg c, bjM_eq hR hI (by omega)]
theorem bd_eq {M : CsM} {N : MoM} {tb : Int} (hR : Rel M N) (hI : CsI M tb) (v : Int) : bdM M v = bwM N v := by
  unfold bdM bwM
  rw [hR.1.1]
  by_cases c : v < 0 ∨ (mN M : Int) ≤ v
  · rw [if_pos (by omega), if_pos c]
  · rw [if_neg (by omega), if_neg c, bnM_eq hR hI (by omega)]
theorem tm_eq {M : CsM} {N : MoM} (hR : Rel M N) (x : Int) : tmM M x = lnM N x := by
  unfold tmM lnM
  rw [hR.1.2.1, hR.1.2.2.2.2.2.2.2.2 (x % 64).toNat (by omega)]
  by_cases c : 0 ≤ x ∧ x < hTi (mHi M) ∧ hTi (mHi M) - 64 ≤ x
  · rw [if_pos c, if_neg (by omega)]
  · rw [if_neg c, if_pos (by omega)]
theorem jn_eq {M : CsM} {N : MoM} (hR : Rel M N) : ∀ (f i : Nat) (x : Int), i + f = mN M → jnF M f i x = coF N f i x
  | 0, _, _, _ => rfl
  | f + 1, i, x, h => by
    rw [jnF, coF, (hR.2 i (by omega)).1.2.2.2.1.1]
    exact jn_eq hR f (i + 1) _ (by omega)
theorem cfF_0 (N : MoM) (x : Int) : ∀ (f i : Nat), cfF N x f i 0 = 0
  | 0, _ => rfl
  | f + 1, i => by
    have e : (if cbM N x i < 0 ∨ nA N 2 i < cbM N x i then (0 : Int) else 0) = 0 := by split <;> rfl
    rw [cfF, e]
    exact cfF_0 N x f (i + 1)
theorem cfF_eq {M : CsM} {N : MoM} {tb : Int} (hR : Rel M N) (hI : CsI M tb) : ∀ (f i : Nat), i + f = mN M → cfF N 5 f i 1 = if abF M f i = true then 1 else 0
  | 0, _, _ => rfl
  | f + 1, i, h => by
    have hk := hI.2.2.2.2.2.2 i (by omega)
    have e : cbM N 5 i = boM M i := (if_pos rfl).trans (bnM_eq hR hI (by omega))
    have h2 := (hR.2 i (by omega)).1.1.2.2.1
    have hb := boM_rng M i hk.1
    rw [cfF, abF, e, h2]
    by_cases c : boM M i = -3 ∨ sDdl (mTs M i) < boM M i
    · rw [if_pos (by omega), if_pos c, cfF_0]
      rfl
    · rw [if_neg (by omega), if_neg c]
      exact cfF_eq hR hI f (i + 1) (by omega)
theorem cn_eq {M : CsM} {N : MoM} {tb : Int} (hR : Rel M N) (hI : CsI M tb) (x : Int) : cnM M x = cxM N x := by
  unfold cnM cxM jnM abM
  rw [hR.1.2.1, hR.1.2.2.1, hR.1.2.2.2.1, hR.1.1, jn_eq hR (mN M) 0 0 (by omega)]
  by_cases c : x = 5
  · subst c
    rw [cfF_eq hR hI (mN M) 0 (by omega)]
  · rw [if_neg c, if_neg c]
