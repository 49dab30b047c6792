def usF (N : MoM) : Nat → Nat → Bool
  | 0, _ => false
  | f + 1, i => if coM N i = true ∧ nA N 10 i = 8 then true else usF N f (i + 1)
def usM (N : MoM) : Bool := usF N (nTa N) 0
def luS (N : MoM) (i : Nat) : MoM := if coM N i = true then lgM N i else N
def luI (N : MoM) : Nat → MoM
  | 0 => N
  | i + 1 => luS (luI N i) i
def ruF (N : MoM) : Nat → Nat → Int → Int
  | 0, _, r => r
  | f + 1, i, r => ruF N f (i + 1) (if 0 < nA N 10 i ∧ (r < 0 ∨ gnM N i r.toNat = true) then (i : Int) else r)
def ruM (N : MoM) : Int := ruF N (nTa N) 0 (-1)
def uvA (N : MoM) (r : Int) : MoM := if r < 0 then (nTa N, nTi N, nId N + 1, nSw N, nLa N, nBu N, nSt N, nA N) else wkM N r.toNat
def uvB (N : MoM) (r : Int) : MoM := (nTa N, nTi N + 1, nId N, nSw N, if r < 0 then -3 else r, nBu N, nSt N, va_up (nA N) 18 (va_up (nA N 18) (nTi N % 64).toNat (if r < 0 then -3 else r)))
def ltK (N : MoM) (i : Nat) : Nat → Nat → Int → Int
  | 0, _, x => x
  | f + 1, k, x => ltK N i f (k + 1) (if nA N 11 k + nA N 2 i = nTi N then x + 1 else x)
def ltS (N : MoM) (i : Nat) : MoM := setA N 15 (va_up (nA N 15) i (ltK N i (nA N 10 i).toNat (i * 8) (nA N 15 i)))
def ltI (N : MoM) : Nat → MoM
  | 0 => N
  | i + 1 => ltS (ltI N i) i
def uvR (N : MoM) : MoM := ltI (uvB (uvA N (ruM N)) (ruM N)) (nTa N)
def uvM (N : MoM) : MoM := uvR (luI N (nTa N))
def utM (N : MoM) : MoM := if usM N = true then N else uvM N
theorem va_up_id {α : Type} (f : Nat → α) (i : Nat) : va_up f i (f i) = f := by
  funext j
  by_cases h : j = i
  · rw [h, va_up_s]
  · rw [va_up_n _ _ h]
theorem ltI_same (N : MoM) : ∀ i, nTa (ltI N i) = nTa N ∧ nTi (ltI N i) = nTi N ∧ ∀ k, k ≠ 15 → nA (ltI N i) k = nA N k
  | 0 => ⟨rfl, rfl, fun _ _ => rfl⟩
  | i + 1 => by
    obtain ⟨h1, h2, h3⟩ := ltI_same N i
    exact ⟨h1, h2, fun k hk => (va_up_n (nA (ltI N i)) _ hk).trans (h3 k hk)⟩
theorem ruF_spec (N : MoM) : ∀ (f i : Nat) (r : Int), i + f ≤ nTa N → (r = -1 ∨ ∃ u : Nat, u < nTa N ∧ r = (u : Int) ∧ 0 < nA N 10 u) → ruF N f i r = -1 ∨ ∃ u : Nat, u < nTa N ∧ ruF N f i r = (u : Int) ∧ 0 < nA N 10 u
  | 0, _, _, _, h => h
  | f + 1, i, r, hi, h => by
    rw [ruF]
    refine ruF_spec N f (i + 1) _ (by omega) ?_
    split
    · rename_i c
      exact Or.inr ⟨i, by omega, rfl, c.1⟩
    · exact h
theorem ruM_spec (N : MoM) : ruM N = -1 ∨ ∃ u : Nat, u < nTa N ∧ ruM N = (u : Int) ∧ 0 < nA N 10 u := ruF_spec N (nTa N) 0 (-1) (by omega) (Or.inl rfl)
theorem rng_up {P : Int → Prop} {f : Nat → Int} (h : ∀ k, P (f k)) {j : Nat} {v : Int} (hv : P v) : ∀ k, P (va_up f j v k) := fun k => by
  by_cases e : k = j
  · rw [e, va_up_s]; exact hv
  · rw [va_up_n _ _ e]; exact h k
theorem rng_sh {P : Int → Prop} {f : Nat → Int} (h : ∀ k, P (f k)) (x : Nat) : ∀ i k, P (shI f x i k)
  | 0, k => h k
  | i + 1, k => rng_up (rng_sh h x i) (rng_sh h x i _) k
theorem MoI_lg {N : MoM} {tb : Int} (h : MoI N tb) {t : Nat} (hw : t < nTa N → nA N 10 t < 8) : MoI (lgM N t) tb := by
  obtain ⟨a1, a2, a3, a4, a5, a6, a7, a8, a9, b1, b2⟩ := h
  refine ⟨a1, a2, a3, a4, a5, a6, a7, a8, a9, rng_up (P := fun z => 0 ≤ z ∧ z ≤ tb) b1 a3, fun i hi => ?_⟩
  obtain ⟨c1, c2, c3, c4, c5, c6, c7, c8, c9⟩ := b2 i hi
  refine ⟨c1, c2, c3, c4, c5, c6, ?_, c8, c9⟩
  show 0 ≤ va_up (nA N 10) t (nA N 10 t + 1) i ∧ va_up (nA N 10) t (nA N 10 t + 1) i ≤ 8
  by_cases e : i = t
  · rw [e, va_up_s]; rw [e] at c7 hi; have := hw hi; omega
  · rw [va_up_n _ _ e]; exact c7
theorem MoI_wk {N : MoM} {tb : Int} (h : MoI N tb) {t : Nat} (ht : t < nTa N) (hw : 0 < nA N 10 t) (hl : nTi N < tb) : MoI (wkM N t) tb := by
  obtain ⟨a1, a2, a3, a4, a5, a6, a7, a8, a9, b1, b2⟩ := h
  have hb := b1 (t * 8)
  have hk := b2 t ht
  unfold wkM
  split
  · rename_i c
    refine ⟨a1, a2, a3, a4, ?_, a6, a7, a8, a9, b1, fun i hi => ?_⟩
    · show -1 ≤ (t : Int) ∧ (t : Int) ≤ 6; omega
    · obtain ⟨c1, c2, c3, c4, c5, c6, c7, c8, c9⟩ := b2 i hi
      refine ⟨c1, c2, c3, c4, c5, c6, c7, ?_, c9⟩
      show 0 ≤ va_up (nA N 12) t (nA N 12 t + 1) i ∧ va_up (nA N 12) t (nA N 12 t + 1) i < 60
      by_cases e : i = t
      · rw [e, va_up_s]; omega
      · rw [va_up_n _ _ e]; exact c8
  · refine ⟨a1, a2, a3, a4, ?_, a6, a7, a8, a9, ?_, fun i hi => ?_⟩
    · show -1 ≤ (t : Int) ∧ (t : Int) ≤ 6; omega
    · exact rng_sh (P := fun z => 0 ≤ z ∧ z ≤ tb) b1 (t * 8) 7
    · obtain ⟨c1, c2, c3, c4, c5, c6, c7, c8, c9⟩ := b2 i hi
      refine ⟨c1, c2, c3, c4, c5, c6, ?_, ?_, ?_⟩
      · show 0 ≤ va_up (nA N 10) t (nA N 10 t - 1) i ∧ va_up (nA N 10) t (nA N 10 t - 1) i ≤ 8
        by_cases e : i = t
        · rw [e, va_up_s]; omega
        · rw [va_up_n _ _ e]; exact c7
      · show 0 ≤ va_up (va_up (nA N 12) t (nA N 12 t + 1)) t 0 i ∧ va_up (va_up (nA N 12) t (nA N 12 t + 1)) t 0 i < 60
        by_cases e : i = t
        · rw [e, va_up_s]; omega
        · rw [va_up_n _ _ e, va_up_n _ _ e]; exact c8
      · show 0 ≤ (if nA N 16 t < nTi N + 1 - nA N 11 (t * 8) then va_up (nA N 16) t (nTi N + 1 - nA N 11 (t * 8)) else nA N 16) i ∧ (if nA N 16 t < nTi N + 1 - nA N 11 (t * 8) then va_up (nA N 16) t (nTi N + 1 - nA N 11 (t * 8)) else nA N 16) i ≤ tb
        split
        · by_cases e : i = t
          · rw [e, va_up_s]; omega
          · rw [va_up_n _ _ e]; exact c9
        · exact c9
theorem wkM_same (N : MoM) (t : Nat) : nTa (wkM N t) = nTa N ∧ nTi (wkM N t) = nTi N := by
  unfold wkM
  split
  · exact ⟨rfl, rfl⟩
  · exact ⟨rfl, rfl⟩
theorem MoI_uvA {N : MoM} {tb r : Int} (h : MoI N tb) (hl : nTi N < tb) (hr : r = -1 ∨ ∃ u : Nat, u < nTa N ∧ r = (u : Int) ∧ 0 < nA N 10 u) : MoI (uvA N r) tb := by
  unfold uvA
  split
  · exact h
  · rename_i c
    obtain ⟨u, h1, h2, h3⟩ := hr.resolve_left (by omega)
    rw [h2]
    exact MoI_wk h h1 h3 hl
theorem uvA_same (N : MoM) (r : Int) : nTa (uvA N r) = nTa N ∧ nTi (uvA N r) = nTi N := by
  unfold uvA
  split
  · exact ⟨rfl, rfl⟩
  · exact wkM_same N _
theorem MoI_uvB {N : MoM} {tb r : Int} (h : MoI N tb) (hl : nTi N < tb) (hr : -1 ≤ r ∧ r ≤ 6) : MoI (uvB N r) tb := by
  obtain ⟨a1, a2, a3, a4, a5, a6, a7, a8, a9, b1, b2⟩ := h
  refine ⟨a1, a2, ?_, ?_, a5, a6, a7, a8, a9, b1, b2⟩
  · show 0 ≤ nTi N + 1 ∧ nTi N + 1 ≤ tb; omega
  · show -3 ≤ (if r < 0 then -3 else r) ∧ (if r < 0 then -3 else r) ≤ 6
    split <;> omega
theorem usF_no (N : MoM) : ∀ (f i : Nat), usF N f i = false → ∀ j, i ≤ j → j < i + f → ¬ (coM N j = true ∧ nA N 10 j = 8)
  | 0, _, _, j, h1, h2 => absurd h2 (by omega)
  | f + 1, i, h, j, h1, h2 => by
    rw [usF] at h
    by_cases c : coM N i = true ∧ nA N 10 i = 8
    · rw [if_pos c] at h; cases h
    · rw [if_neg c] at h
      by_cases e : j = i
      · subst e; exact c
      · exact usF_no N f (i + 1) h j (by omega) (by omega)
theorem luI_same (N : MoM) : ∀ i, nTa (luI N i) = nTa N ∧ nTi (luI N i) = nTi N ∧ nA (luI N i) 0 = nA N 0 ∧ nA (luI N i) 4 = nA N 4 ∧ ∀ j, i ≤ j → nA (luI N i) 10 j = nA N 10 j
  | 0 => ⟨rfl, rfl, rfl, rfl, fun _ _ => rfl⟩
  | i + 1 => by
    obtain ⟨h1, h2, h3, h4, h5⟩ := luI_same N i
    show nTa (luS (luI N i) i) = nTa N ∧ nTi (luS (luI N i) i) = nTi N ∧ nA (luS (luI N i) i) 0 = nA N 0 ∧ nA (luS (luI N i) i) 4 = nA N 4 ∧ ∀ j, i + 1 ≤ j → nA (luS (luI N i) i) 10 j = nA N 10 j
    unfold luS
    split
    · exact ⟨h1, h2, h3, h4, fun j hj => (va_up_n (nA (luI N i) 10) _ (by omega)).trans (h5 j (by omega))⟩
    · exact ⟨h1, h2, h3, h4, fun j hj => h5 j (by omega)⟩
theorem coM_luI (N : MoM) (i j : Nat) : coM (luI N i) j = coM N j := by
  obtain ⟨h1, h2, h3, h4, -⟩ := luI_same N i
  unfold coM
  rw [h2, h3, h4]
