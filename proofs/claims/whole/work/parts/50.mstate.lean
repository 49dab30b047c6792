/-! The reference's state -/
abbrev MoM : Type := Nat × Int × Int × Int × Int × Int × Bool × (Nat → Nat → Int)
def nTa (x : MoM) : Nat := x.1
def nTi (x : MoM) : Int := x.2.1
def nId (x : MoM) : Int := x.2.2.1
def nSw (x : MoM) : Int := x.2.2.2.1
def nLa (x : MoM) : Int := x.2.2.2.2.1
def nBu (x : MoM) : Int := x.2.2.2.2.2.1
def nSt (x : MoM) : Bool := x.2.2.2.2.2.2.1
/-- the arrays: 0 period, 1 cost, 2 deadline, 3 priority, 4 offset, 5 ceilings, 6 sections, 7 on, 8 from, 9 long, 10 waiting, 11 release, 12 units, 13 released, 14 done, 15 late, 16 worst, 17 newest, 18 line -/
def nA (x : MoM) : Nat → Nat → Int := x.2.2.2.2.2.2.2
def setA (N : MoM) (k : Nat) (f : Nat → Int) : MoM := (nTa N, nTi N, nId N, nSw N, nLa N, nBu N, nSt N, va_up (nA N) k f)
def MoP (g : GG) (w : fw) (b : Nat) (ad : Nat → Nat) (N : MoM) : Prop :=
  w b = some (.inr (5, [.int (iZ (nTa N : Int)), .int (iZ (nTi N)), .int (iZ (nId N)), .int (iZ (nSw N)), .int (iZ (nLa N)), .int (iZ (nBu N)), .int (bZ (nSt N)), .ref (ad 0), .ref (ad 1), .ref (ad 2), .ref (ad 3), .ref (ad 4), .ref (ad 5), .ref (ad 6), .ref (ad 7), .ref (ad 8), .ref (ad 9), .ref (ad 10), .ref (ad 11), .ref (ad 12), .ref (ad 13), .ref (ad 14), .ref (ad 15), .ref (ad 16), .ref (ad 17), .ref (ad 18)])) ∧
  w (ad 0) = some (aZ g.2.1 6 (nA N 0)) ∧ w (ad 1) = some (aZ g.2.1 6 (nA N 1)) ∧ w (ad 2) = some (aZ g.2.1 6 (nA N 2)) ∧ w (ad 3) = some (aZ g.2.1 6 (nA N 3)) ∧ w (ad 4) = some (aZ g.2.1 6 (nA N 4)) ∧ w (ad 5) = some (aZ g.2.1 4 (nA N 5)) ∧ w (ad 6) = some (aZ g.2.1 6 (nA N 6)) ∧ w (ad 7) = some (aZ g.2.1 18 (nA N 7)) ∧ w (ad 8) = some (aZ g.2.1 18 (nA N 8)) ∧ w (ad 9) = some (aZ g.2.1 18 (nA N 9)) ∧ w (ad 10) = some (aZ g.2.1 6 (nA N 10)) ∧ w (ad 11) = some (aZ g.2.1 48 (nA N 11)) ∧ w (ad 12) = some (aZ g.2.1 6 (nA N 12)) ∧ w (ad 13) = some (aZ g.2.1 6 (nA N 13)) ∧ w (ad 14) = some (aZ g.2.1 6 (nA N 14)) ∧ w (ad 15) = some (aZ g.2.1 6 (nA N 15)) ∧ w (ad 16) = some (aZ g.2.1 6 (nA N 16)) ∧ w (ad 17) = some (aZ g.2.1 6 (nA N 17)) ∧ w (ad 18) = some (aZ g.2.1 64 (nA N 18)) ∧
  ∀ i j, i < 19 → j < 19 → i ≠ j → ad i ≠ ad j
def MoI (N : MoM) (tb : Int) : Prop :=
  tb ≤ 300000 ∧ nTa N ≤ 6 ∧ (0 ≤ nTi N ∧ nTi N ≤ tb) ∧ (-3 ≤ nLa N ∧ nLa N ≤ 6) ∧ (-1 ≤ nBu N ∧ nBu N ≤ 6) ∧
  (∀ k, 1 ≤ nA N 5 k ∧ nA N 5 k ≤ 10) ∧ (∀ k, 0 ≤ nA N 7 k ∧ nA N 7 k ≤ 3) ∧ (∀ k, 0 ≤ nA N 8 k ∧ nA N 8 k ≤ 59) ∧ (∀ k, 0 ≤ nA N 9 k ∧ nA N 9 k ≤ 60) ∧ (∀ k, 0 ≤ nA N 11 k ∧ nA N 11 k ≤ tb) ∧
  ∀ i, i < nTa N → (2 ≤ nA N 0 i ∧ nA N 0 i ≤ 60) ∧ (1 ≤ nA N 1 i ∧ nA N 1 i ≤ 60) ∧ (1 ≤ nA N 2 i ∧ nA N 2 i ≤ 60) ∧ (1 ≤ nA N 3 i ∧ nA N 3 i ≤ 10) ∧ (-1 ≤ nA N 4 i ∧ nA N 4 i ≤ 59) ∧ (0 ≤ nA N 6 i ∧ nA N 6 i ≤ 3) ∧ (0 ≤ nA N 10 i ∧ nA N 10 i ≤ 8) ∧ (0 ≤ nA N 12 i ∧ nA N 12 i < 60) ∧ (0 ≤ nA N 16 i ∧ nA N 16 i ≤ tb)
/-- the section with the unit: its place, or -1 -/
def saF (N : MoM) (u : Int) : Nat → Nat → Int
  | 0, _ => -1
  | f + 1, k => if nA N 8 k ≤ u ∧ u < nA N 8 k + nA N 9 k then (k : Int) else saF N u f (k + 1)
def saM (N : MoM) (t : Nat) (u : Int) : Int := saF N u (nA N 6 t).toNat (t * 3)
def coM (N : MoM) (t : Nat) : Bool := decide (0 ≤ nA N 4 t ∧ nA N 4 t ≤ nTi N ∧ (nTi N - nA N 4 t) % nA N 0 t = 0)
def heK (N : MoM) (t : Nat) : Int := if 0 < nA N 10 t then saM N t (nA N 12 t) else -1
def heM (N : MoM) (t : Nat) : Int := if 0 ≤ heK N t ∧ nA N 8 (heK N t).toNat < nA N 12 t then nA N 7 (heK N t).toNat else -1
def anM (N : MoM) (t : Nat) : Int := if 0 ≤ heM N t ∧ nA N 3 t < nA N 5 (heM N t).toNat then nA N 5 (heM N t).toNat else nA N 3 t
def gnM (N : MoM) (i j : Nat) : Bool :=
  if anM N i ≠ anM N j then decide (anM N j < anM N i)
  else if (0 ≤ heM N i ∧ heM N j < 0) ∨ (heM N i < 0 ∧ 0 ≤ heM N j) then decide (0 ≤ heM N i)
  else if (i : Int) = nLa N ∨ (j : Int) = nLa N then decide ((i : Int) = nLa N)
  else if nA N 11 (i * 8) ≠ nA N 11 (j * 8) then decide (nA N 11 (i * 8) < nA N 11 (j * 8))
  else decide ((i : Int) < (j : Int))
theorem saF_rng (N : MoM) (u : Int) : ∀ (f k : Nat), saF N u f k = -1 ∨ ((k : Int) ≤ saF N u f k ∧ saF N u f k < (k : Int) + (f : Int))
  | 0, _ => Or.inl rfl
  | f + 1, k => by
    rw [saF]
    split
    · right; omega
    · rcases saF_rng N u f (k + 1) with z | z
      · exact Or.inl z
      · right; omega
theorem saM_rng (N : MoM) (t : Nat) (u : Int) (h : 0 ≤ nA N 6 t ∧ nA N 6 t ≤ 3) (ht : t < 6) : saM N t u = -1 ∨ (0 ≤ saM N t u ∧ saM N t u < 18) := by
  rcases saF_rng N u (nA N 6 t).toNat (t * 3) with z | z
  · exact Or.inl z
  · right; unfold saM; omega
theorem heK_rng (N : MoM) (t : Nat) (h : 0 ≤ nA N 6 t ∧ nA N 6 t ≤ 3) (ht : t < 6) : heK N t = -1 ∨ (0 ≤ heK N t ∧ heK N t < 18) := by
  unfold heK
  split
  · exact saM_rng N t _ h ht
  · exact Or.inl rfl
theorem heM_rng (N : MoM) (t : Nat) (ho : ∀ k, 0 ≤ nA N 7 k ∧ nA N 7 k ≤ 3) : heM N t = -1 ∨ (0 ≤ heM N t ∧ heM N t ≤ 3) := by
  unfold heM
  split
  · exact Or.inr (ho _)
  · exact Or.inl rfl
theorem anM_rng (N : MoM) (t : Nat) (hc : ∀ k, 1 ≤ nA N 5 k ∧ nA N 5 k ≤ 10) (hp : 1 ≤ nA N 3 t ∧ nA N 3 t ≤ 10) : 1 ≤ anM N t ∧ anM N t ≤ 10 := by
  unfold anM
  split
  · exact hc _
  · exact hp
