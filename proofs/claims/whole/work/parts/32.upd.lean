/-! What writing does to the picture -/
def updTd (M : CsM) (i : Nat) (d : TkD) : CsM := (mN M, mTs M, mNs M, mSc M, va_up (mTd M) i d, mCe M, mHi M, mSt M)
def setHi (M : CsM) (h : HiS) : CsM := (mN M, mTs M, mNs M, mSc M, mTd M, mCe M, h, mSt M)
def setSt (M : CsM) : CsM := (mN M, mTs M, mNs M, mSc M, mTd M, mCe M, mHi M, true)
def setCe (M : CsM) (o : Nat) (c : Int) : CsM := (mN M, mTs M, mNs M, mSc M, mTd M, va_up (mCe M) o c, mHi M, mSt M)
/-- the places that may be written -/
def CsO (O : Nat → Prop) (a : Nat) (A : ADT) (M : CsM) : Prop := O a ∧ O (aTl A) ∧ O (aCa A) ∧ O (aHi A) ∧ O (aHa A) ∧ (0 < mN M → O (aTe A)) ∧ ∀ i, i < mN M → O (aTk A i) ∧ O (aSl A i) ∧ O (aJq A i) ∧ O (aRa A i) ∧ (0 < mNs M i → O (aSe A i))
theorem own_ne {O : Nat → Prop} {q b : Nat} (hq : ¬ O q) (hb : O b) : q ≠ b := fun e => hq (e ▸ hb)
theorem va_up_s {α : Type} (f : Nat → α) (k : Nat) (v : α) : va_up f k v k = v := by simp [va_up]
theorem va_up_n {α : Type} (f : Nat → α) {k j : Nat} (v : α) (h : j ≠ k) : va_up f k v j = f j := by simp [va_up, h]
theorem mTd_upd (M : CsM) (i : Nat) (d : TkD) : mTd (updTd M i d) i = d := va_up_s _ _ _
theorem mTd_upn (M : CsM) {i j : Nat} (d : TkD) (h : j ≠ i) : mTd (updTd M i d) j = mTd M j := va_up_n _ _ h
section UPD
variable {g : GG} {w w1 : fw} {a : Nat} {A : ADT} {M : CsM}
theorem TkP.keep {t sl se jq ra : Nat} {sa : Nat → Nat} {mo : Int} {qf : Nat → Option Nat} {x : TkS} {ns : Nat} {S : Nat → SecT} {d : TkD} (h : TkP g w t sl se jq ra sa mo qf x ns S d) (k1 : w1 t = w t) (k2 : w1 sl = w sl) (k3 : 0 < ns → w1 se = w se) (k4 : w1 jq = w jq) (k5 : w1 ra = w ra) (k6 : ∀ j, j < ns → w1 (sa j) = w (sa j)) : TkP g w1 t sl se jq ra sa mo qf x ns S d := by
  obtain ⟨kt, ksl, ks0, kse, kqf, ksa, kjq, kra⟩ := h
  exact ⟨k1.trans kt, k2.trans ksl, ks0, fun z => (k3 z).trans (kse z), kqf, fun j hj => (k6 j hj).trans (ksa j hj), k4.trans kjq, k5.trans kra⟩
theorem CsP.updD (h : CsP g w a A M) {i : Nat} (hi : i < mN M) {d : TkD}
    (h1 : w1 (aTk A i) = some (.inr (3, [.int (iZ (sPer (mTs M i))), .int (iZ (sCst (mTs M i))), .int (iZ (sDdl (mTs M i))), .int (iZ (sPri (mTs M i))), .int (bZ (sSpo (mTs M i))), .ref (aSl A i), .ref (aJq A i), .int (iZ (dNxt d))])))
    (h2 : w1 (aJq A i) = some (.inr (1, [.ref (aRa A i), .int (iZ (dFr d)), .int (iZ (dNd d)), .int (iZ (dUf d)), .int (iZ (dRl d)), .int (iZ (dLr d)), .int (iZ (dDl d)), .int (iZ (dGr d))])))
    (h3 : w1 (aRa A i) = some (aZ g.2.1 8 (dRel d))) (ho : ∀ q, q ≠ aTk A i → q ≠ aJq A i → q ≠ aRa A i → w1 q = w q) : CsP g w1 a A (updTd M i d) := by
  obtain ⟨kt, ksl, ks0, kse, kqf, ksa, kjq, kra⟩ := h.tk i hi
  have kp : ∀ (b : Nat) (x : va_E), w b = some x → (∀ fs, x ≠ .inr (3, fs)) → (∀ fs, x ≠ .inr (1, fs)) → (∀ f, x ≠ aZ g.2.1 8 f) → w1 b = w b := fun b x hb n1 n2 n3 => ho b (fw_ne hb kt (n1 _)) (fw_ne hb kjq (n2 _)) (fw_ne hb kra (n3 _))
  refine ⟨(kp _ _ h.c0 (fun _ => ne_rr (by decide)) (fun _ => ne_rr (by decide)) (fun _ => ne_rl)).trans h.c0, (kp _ _ h.tl (fun _ => ne_rr (by decide)) (fun _ => ne_rr (by decide)) (fun _ => ne_rl)).trans h.tl, h.te0, fun z => (kp _ _ (h.te z) (fun _ => ne_lr) (fun _ => ne_lr) (fun _ => ne_ll (by decide))).trans (h.te z), h.qf, (kp _ _ h.ca (fun _ => ne_lr) (fun _ => ne_lr) (fun _ => ne_ll (by decide))).trans h.ca, (kp _ _ h.hi (fun _ => ne_rr (by decide)) (fun _ => ne_rr (by decide)) (fun _ => ne_rl)).trans h.hi, (kp _ _ h.ha (fun _ => ne_lr) (fun _ => ne_lr) (fun _ => ne_ll (by decide))).trans h.ha, fun j hj => ?_, h.d1, h.d2⟩
  have hj' : j < mN M := hj
  by_cases e : j = i
  · subst e
    rw [mTd_upd]
    exact ⟨h1, (kp _ _ ksl (fun _ => ne_rr (by decide)) (fun _ => ne_rr (by decide)) (fun _ => ne_rl)).trans ksl, ks0, fun z => (kp _ _ (kse z) (fun _ => ne_lr) (fun _ => ne_lr) (fun _ => ne_ll (by decide))).trans (kse z), kqf, fun k hk => (kp _ _ (ksa k hk) (fun _ => ne_rr (by decide)) (fun _ => ne_rr (by decide)) (fun _ => ne_rl)).trans (ksa k hk), h2, h3⟩
  · rw [mTd_upn M d e]
    have hq := h.tk j hj'
    obtain ⟨gt, gsl, gs0, gse, gqf, gsa, gjq, gra⟩ := id hq
    obtain ⟨d1, d2, d3, d4, -⟩ := h.d1 j i hj' hi e
    exact hq.keep (ho _ d1 (fw_ne gt kjq (ne_rr (by decide))) (fw_ne gt kra ne_rl)) (kp _ _ gsl (fun _ => ne_rr (by decide)) (fun _ => ne_rr (by decide)) (fun _ => ne_rl)) (fun z => kp _ _ (gse z) (fun _ => ne_lr) (fun _ => ne_lr) (fun _ => ne_ll (by decide))) (ho _ (fw_ne gjq kt (ne_rr (by decide))) d3 (fw_ne gjq kra ne_rl)) (ho _ (fw_ne gra kt ne_lr) (fw_ne gra kjq ne_lr) d4) (fun k hk => kp _ _ (gsa k hk) (fun _ => ne_rr (by decide)) (fun _ => ne_rr (by decide)) (fun _ => ne_rl))
theorem CsP.updH (h : CsP g w a A M) {x : HiS}
    (h1 : w1 (aHi A) = some (.inr (0, [.ref (aHa A), .int (iZ (hTi x)), .int (iZ (hId x)), .int (iZ (hSw x)), .int (iZ (hLr x)), .int (iZ (hLn x))])))
    (h2 : w1 (aHa A) = some (aZ g.2.1 64 (hOf x))) (ho : ∀ q, q ≠ aHi A → q ≠ aHa A → w1 q = w q) : CsP g w1 a A (setHi M x) := by
  have kp : ∀ (b : Nat) (y : va_E), w b = some y → (∀ fs, y ≠ .inr (0, fs)) → (∀ f, y ≠ aZ g.2.1 64 f) → w1 b = w b := fun b y hb n1 n2 => ho b (fw_ne hb h.hi (n1 _)) (fw_ne hb h.ha (n2 _))
  refine ⟨(kp _ _ h.c0 (fun _ => ne_rr (by decide)) (fun _ => ne_rl)).trans h.c0, (kp _ _ h.tl (fun _ => ne_rr (by decide)) (fun _ => ne_rl)).trans h.tl, h.te0, fun z => (kp _ _ (h.te z) (fun _ => ne_lr) (fun _ => ne_ll (by decide))).trans (h.te z), h.qf, (kp _ _ h.ca (fun _ => ne_lr) (fun _ => ne_ll (by decide))).trans h.ca, h1, h2, fun j hj => ?_, h.d1, h.d2⟩
  have hq := h.tk j hj
  obtain ⟨gt, gsl, gs0, gse, gqf, gsa, gjq, gra⟩ := id hq
  exact hq.keep (kp _ _ gt (fun _ => ne_rr (by decide)) (fun _ => ne_rl)) (kp _ _ gsl (fun _ => ne_rr (by decide)) (fun _ => ne_rl)) (fun z => kp _ _ (gse z) (fun _ => ne_lr) (fun _ => ne_ll (by decide))) (kp _ _ gjq (fun _ => ne_rr (by decide)) (fun _ => ne_rl)) (kp _ _ gra (fun _ => ne_lr) (fun _ => ne_ll (by decide))) (fun k hk => kp _ _ (gsa k hk) (fun _ => ne_rr (by decide)) (fun _ => ne_rl))
theorem CsP.updS (h : CsP g w a A M) (h1 : w1 a = some (.inr (4, [.ref (aTl A), .ref (aCa A), .ref (aHi A), .int (bZ true)]))) (ho : ∀ q, q ≠ a → w1 q = w q) : CsP g w1 a A (setSt M) := by
  have kp : ∀ (b : Nat) (y : va_E), w b = some y → (∀ fs, y ≠ .inr (4, fs)) → w1 b = w b := fun b y hb n1 => ho b (fw_ne hb h.c0 (n1 _))
  refine ⟨h1, (kp _ _ h.tl (fun _ => ne_rr (by decide))).trans h.tl, h.te0, fun z => (kp _ _ (h.te z) (fun _ => ne_lr)).trans (h.te z), h.qf, (kp _ _ h.ca (fun _ => ne_lr)).trans h.ca, (kp _ _ h.hi (fun _ => ne_rr (by decide))).trans h.hi, (kp _ _ h.ha (fun _ => ne_lr)).trans h.ha, fun j hj => ?_, h.d1, h.d2⟩
  have hq := h.tk j hj
  obtain ⟨gt, gsl, gs0, gse, gqf, gsa, gjq, gra⟩ := id hq
  exact hq.keep (kp _ _ gt (fun _ => ne_rr (by decide))) (kp _ _ gsl (fun _ => ne_rr (by decide))) (fun z => kp _ _ (gse z) (fun _ => ne_lr)) (kp _ _ gjq (fun _ => ne_rr (by decide))) (kp _ _ gra (fun _ => ne_lr)) (fun k hk => kp _ _ (gsa k hk) (fun _ => ne_rr (by decide)))
theorem CsP.updC (h : CsP g w a A M) {o : Nat} {c : Int} (h1 : w1 (aCa A) = some (aZ g.2.1 4 (va_up (mCe M) o c))) (ho : ∀ q, q ≠ aCa A → w1 q = w q) : CsP g w1 a A (setCe M o c) := by
  have kp : ∀ (b : Nat) (y : va_E), w b = some y → (∀ f, y ≠ aZ g.2.1 4 f) → w1 b = w b := fun b y hb n1 => ho b (fw_ne hb h.ca (n1 _))
  refine ⟨(kp _ _ h.c0 (fun _ => ne_rl)).trans h.c0, (kp _ _ h.tl (fun _ => ne_rl)).trans h.tl, h.te0, fun z => (kp _ _ (h.te z) (fun _ => ne_ll (by decide))).trans (h.te z), h.qf, h1, (kp _ _ h.hi (fun _ => ne_rl)).trans h.hi, (kp _ _ h.ha (fun _ => ne_ll (by decide))).trans h.ha, fun j hj => ?_, h.d1, h.d2⟩
  have hq := h.tk j hj
  obtain ⟨gt, gsl, gs0, gse, gqf, gsa, gjq, gra⟩ := id hq
  exact hq.keep (kp _ _ gt (fun _ => ne_rl)) (kp _ _ gsl (fun _ => ne_rl)) (fun z => kp _ _ (gse z) (fun _ => ne_ll (by decide))) (kp _ _ gjq (fun _ => ne_rl)) (kp _ _ gra (fun _ => ne_ll (by decide))) (fun k hk => kp _ _ (gsa k hk) (fun _ => ne_rl))
end UPD
/-- a release at the time t -/
def rlD (d : TkD) (nx t : Int) : TkD := (nx, va_up (dRel d) ((dFr d + dNd d) % 8).toNat t, dFr d, dNd d + 1, dUf d, dRl d + 1, t, dDl d, dGr d)
def evR (M : CsM) (v : Int) : Int :=
  if mSt M = false ∨ (v < 0 ∨ (mN M : Int) - 1 < v) then -1
  else if sSpo (mTs M v.toNat) = false ∨ (0 < dRl (mTd M v.toNat) ∧ hTi (mHi M) - dLr (mTd M v.toNat) < sPer (mTs M v.toNat)) then -1
  else if 8 ≤ dNd (mTd M v.toNat) then -2 else 0
def evM (M : CsM) (v : Int) : CsM := if evR M v = 0 then updTd M v.toNat (rlD (mTd M v.toNat) (dNxt (mTd M v.toNat)) (hTi (mHi M))) else M
def srR (M : CsM) : Int := if mSt M = true ∨ (mN M : Int) = 0 then -1 else 0
def srM (M : CsM) : CsM := if srR M = 0 then setSt M else M
def ceR (M : CsM) (o c : Int) : Int := if mSt M = true ∨ (o < 0 ∨ 3 < o) ∨ (c < 1 ∨ 10 < c) ∨ c < gpM M o then -1 else 0
def ceM (M : CsM) (o c : Int) : CsM := if ceR M o c = 0 then setCe M o.toNat c else M
theorem gpF_rng (M : CsM) (ob : Int) : ∀ (f i : Nat) (k : Int), (∀ j, j < i + f → 1 ≤ sPri (mTs M j) ∧ sPri (mTs M j) ≤ 10) → (0 ≤ k ∧ k ≤ 10) → 0 ≤ gpF M ob f i k ∧ gpF M ob f i k ≤ 10
  | 0, _, _, _, hk => hk
  | f + 1, i, k, h, hk => by
    have hi := h i (by omega)
    exact gpF_rng M ob f (i + 1) _ (fun j hj => h j (by omega)) (by split <;> omega)
