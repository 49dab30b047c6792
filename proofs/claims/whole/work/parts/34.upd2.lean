/-! A section more, a task more -/
def secA (A : ADT) (t q se : Nat) (mo : Int) (qf : Nat → Option Nat) (k : Nat) : ADT := (A.1, (aTk A, aSl A, va_up (aSe A) t se, aJq A, aRa A), va_up (aSa A) t (va_up (aSa A t) k q), (aMo A, va_up (aMs A) t mo), (aQf A, va_up (aQs A) t qf))
def secM (M : CsM) (t : Nat) (x : SecT) : CsM := (mN M, mTs M, va_up (mNs M) t (mNs M t + 1), va_up (mSc M) t (va_up (mSc M t) (mNs M t) x), mTd M, mCe M, mHi M, mSt M)
def tskA (A : ADT) (n t sl jq ra te : Nat) (mo : Int) (qf : Nat → Option Nat) (e0 : Nat) : ADT := ((aTl A, te, aCa A, aHi A, aHa A), (va_up (aTk A) n t, va_up (aSl A) n sl, va_up (aSe A) n e0, va_up (aJq A) n jq, va_up (aRa A) n ra), aSa A, (mo, va_up (aMs A) n 0), (qf, aQs A))
def tskM (M : CsM) (x : TkS) (of : Int) : CsM := (mN M + 1, va_up (mTs M) (mN M) x, va_up (mNs M) (mN M) 0, mSc M, va_up (mTd M) (mN M) (of, fun _ => 0, 0, 0, 0, 0, 0, 0, 0), mCe M, mHi M, mSt M)
section UPD2
variable {g : GG} {w w1 : fw} {a : Nat} {A : ADT} {M : CsM}
theorem CsP.addSec (h : CsP g w a A M) {t : Nat} (ht : t < mN M) {se q : Nat} {mo : Int} {qf : Nat → Option Nat} {x : SecT}
    (h1 : w1 (aSl A t) = some (.inr (6, [.int (iZ mo), .ref se, .int (iZ ((mNs M t : Int) + 1))]))) (h2 : w1 se = some (aQ g.2.2.1 10 qf))
    (h3 : w1 q = some (.inr (2, [.int (iZ x.1), .int (iZ x.2.1), .int (iZ x.2.2)]))) (h4 : qf (mNs M t) = some q) (h5 : ∀ j, j < mNs M t → qf j = some (aSa A t j)) (hq : w q = none)
    (hs : (0 < mNs M t ∧ se = aSe A t) ∨ w se = none) (ho : ∀ y, y ≠ aSl A t → y ≠ se → y ≠ q → w1 y = w y) : CsP g w1 a (secA A t q se mo qf (mNs M t)) (secM M t x) := by
  obtain ⟨kt, ksl, ks0, kse, kqf, ksa, kjq, kra⟩ := h.tk t ht
  have nse : ∀ (b : Nat) (y : va_E), w b = some y → (∀ f, y ≠ aQ g.2.2.1 10 f) → b ≠ se := fun b y hb hn => hs.elim (fun z => by rw [z.2]; exact fw_ne hb (kse z.1) (hn _)) (fun z => fw_new_ne hb z)
  have kp : ∀ (b : Nat) (y : va_E), w b = some y → (∀ fs, y ≠ .inr (6, fs)) → (∀ f, y ≠ aQ g.2.2.1 10 f) → w1 b = w b := fun b y hb n1 n2 => ho b (fw_ne hb ksl (n1 _)) (nse b y hb n2) (fw_new_ne hb hq)
  have hte : ∀ z : 0 < mN M, aTe A ≠ se := fun z => hs.elim (fun z' => by rw [z'.2]; exact Ne.symm ((h.d2 t ht).2 z'.1)) (fun z' => fw_new_ne (h.te z) z')
  have hse : ∀ j, j < mN M → j ≠ t → 0 < mNs M j → aSe A j ≠ se := fun j hj e z => hs.elim (fun z' => by rw [z'.2]; exact (h.d1 j t hj ht e).2.2.2.2 z z'.1) (fun z' => fw_new_ne ((h.tk j hj).2.2.2.1 z) z')
  refine ⟨(kp _ _ h.c0 (fun _ => ne_rr (by decide)) (fun _ => ne_rl)).trans h.c0, (ho _ (Ne.symm (h.d2 t ht).1) (nse _ _ h.tl (fun _ => ne_rl)) (fw_new_ne h.tl hq)).trans h.tl, h.te0, fun z => (ho _ (fw_ne (h.te z) ksl ne_lr) (hte z) (fw_new_ne (h.te z) hq)).trans (h.te z), h.qf, (kp _ _ h.ca (fun _ => ne_lr) (fun _ => ne_ll (by decide))).trans h.ca, (kp _ _ h.hi (fun _ => ne_rr (by decide)) (fun _ => ne_rl)).trans h.hi, (kp _ _ h.ha (fun _ => ne_lr) (fun _ => ne_ll (by decide))).trans h.ha, fun j hj => ?_, fun i j hi hj e => ?_, fun i hi => ?_⟩
  · have hj' : j < mN M := hj
    show TkP g w1 (aTk A j) (aSl A j) (va_up (aSe A) t se j) (aJq A j) (aRa A j) (va_up (aSa A) t (va_up (aSa A t) (mNs M t) q) j) (va_up (aMs A) t mo j) (va_up (aQs A) t qf j) (mTs M j) (va_up (mNs M) t (mNs M t + 1) j) (va_up (mSc M) t (va_up (mSc M t) (mNs M t) x) j) (mTd M j)
    by_cases e : j = t
    · subst e
      rw [va_up_s, va_up_s, va_up_s, va_up_s, va_up_s, va_up_s]
      refine ⟨(kp _ _ kt (fun _ => ne_rr (by decide)) (fun _ => ne_rl)).trans kt, h1, fun z => absurd z (by omega), fun _ => h2, fun k hk => ?_, fun k hk => ?_, (kp _ _ kjq (fun _ => ne_rr (by decide)) (fun _ => ne_rl)).trans kjq, (kp _ _ kra (fun _ => ne_lr) (fun _ => ne_ll (by decide))).trans kra⟩
      · by_cases ek : k = mNs M j
        · subst ek; rw [va_up_s]; exact h4
        · rw [va_up_n _ _ ek]; exact h5 k (by omega)
      · by_cases ek : k = mNs M j
        · subst ek; rw [va_up_s, va_up_s]; exact h3
        · rw [va_up_n _ _ ek, va_up_n _ _ ek]
          exact (kp _ _ (ksa k (by omega)) (fun _ => ne_rr (by decide)) (fun _ => ne_rl)).trans (ksa k (by omega))
    · rw [va_up_n _ _ e, va_up_n _ _ e, va_up_n _ _ e, va_up_n _ _ e, va_up_n _ _ e, va_up_n _ _ e]
      have hk := h.tk j hj'
      obtain ⟨gt, gsl, gs0, gse, gqf, gsa, gjq, gra⟩ := id hk
      exact hk.keep (kp _ _ gt (fun _ => ne_rr (by decide)) (fun _ => ne_rl)) (ho _ (h.d1 j t hj' ht e).2.1 (nse _ _ gsl (fun _ => ne_rl)) (fw_new_ne gsl hq)) (fun z => ho _ (fw_ne (gse z) ksl ne_lr) (hse j hj' e z) (fw_new_ne (gse z) hq)) (kp _ _ gjq (fun _ => ne_rr (by decide)) (fun _ => ne_rl)) (kp _ _ gra (fun _ => ne_lr) (fun _ => ne_ll (by decide))) (fun k hk => kp _ _ (gsa k hk) (fun _ => ne_rr (by decide)) (fun _ => ne_rl))
  · obtain ⟨d1, d2, d3, d4, d5⟩ := h.d1 i j hi hj e
    refine ⟨d1, d2, d3, d4, ?_⟩
    show 0 < va_up (mNs M) t (mNs M t + 1) i → 0 < va_up (mNs M) t (mNs M t + 1) j → va_up (aSe A) t se i ≠ va_up (aSe A) t se j
    by_cases ei : i = t
    · subst ei
      rw [va_up_s, va_up_s, va_up_n _ _ (Ne.symm e), va_up_n _ _ (Ne.symm e)]
      exact fun _ z => Ne.symm (hse j hj (Ne.symm e) z)
    · rw [va_up_n _ _ ei, va_up_n _ _ ei]
      by_cases ej : j = t
      · subst ej
        rw [va_up_s, va_up_s]
        exact fun z _ => hse i hi ei z
      · rw [va_up_n _ _ ej, va_up_n _ _ ej]
        exact d5
  · refine ⟨(h.d2 i hi).1, ?_⟩
    show 0 < va_up (mNs M) t (mNs M t + 1) i → va_up (aSe A) t se i ≠ aTe A
    by_cases ei : i = t
    · subst ei
      rw [va_up_s, va_up_s]
      exact fun _ => Ne.symm (hte (by have : i < mN M := hi; omega))
    · rw [va_up_n _ _ ei, va_up_n _ _ ei]
      exact (h.d2 i hi).2
theorem CsP.addTask (h : CsP g w a A M) {t sl jq ra te : Nat} {mo : Int} {qf : Nat → Option Nat} {x : TkS} {of : Int}
    (h0 : w1 (aTl A) = some (.inr (6, [.int (iZ mo), .ref te, .int (iZ ((mN M : Int) + 1))]))) (h1 : w1 te = some (aQ g.2.2.1 10 qf)) (h4 : qf (mN M) = some t) (h5 : ∀ j, j < mN M → qf j = some (aTk A j))
    (kt : w1 t = some (.inr (3, [.int (iZ (sPer x)), .int (iZ (sCst x)), .int (iZ (sDdl x)), .int (iZ (sPri x)), .int (bZ (sSpo x)), .ref sl, .ref jq, .int (iZ of)])))
    (ksl : w1 sl = some (.inr (6, [.int (iZ 0), .ref g.2.2.2, .int (iZ 0)]))) (kjq : w1 jq = some (.inr (1, [.ref ra, .int (iZ 0), .int (iZ 0), .int (iZ 0), .int (iZ 0), .int (iZ 0), .int (iZ 0), .int (iZ 0)]))) (kra : w1 ra = some (aZ g.2.1 8 (fun _ => 0)))
    (n1 : w t = none) (n2 : w sl = none) (n3 : w jq = none) (n4 : w ra = none) (hs : (0 < mN M ∧ te = aTe A) ∨ w te = none)
    (ho : ∀ y, y ≠ aTl A → y ≠ te → y ≠ t → y ≠ sl → y ≠ jq → y ≠ ra → w1 y = w y) : CsP g w1 a (tskA A (mN M) t sl jq ra te mo qf g.2.2.2) (tskM M x of) := by
  have nte : ∀ (b : Nat) (y : va_E), w b = some y → (∀ f, y ≠ aQ g.2.2.1 10 f) → b ≠ te := fun b y hb hn => hs.elim (fun z => by rw [z.2]; exact fw_ne hb (h.te z.1) (hn _)) (fun z => fw_new_ne hb z)
  have kq : ∀ (b : Nat) (y : va_E), w b = some y → b ≠ aTl A → b ≠ te → w1 b = w b := fun b y hb e1 e2 => ho b e1 e2 (fw_new_ne hb n1) (fw_new_ne hb n2) (fw_new_ne hb n3) (fw_new_ne hb n4)
  have kp : ∀ (b : Nat) (y : va_E), w b = some y → (∀ fs, y ≠ .inr (6, fs)) → (∀ f, y ≠ aQ g.2.2.1 10 f) → w1 b = w b := fun b y hb m1 m2 => kq b y hb (fw_ne hb h.tl (m1 _)) (nte b y hb m2)
  have hse : ∀ j, j < mN M → 0 < mNs M j → aSe A j ≠ te := fun j hj z => hs.elim (fun z' => by rw [z'.2]; exact (h.d2 j hj).2 z) (fun z' => fw_new_ne ((h.tk j hj).2.2.2.1 z) z')
  refine ⟨(kp _ _ h.c0 (fun _ => ne_rr (by decide)) (fun _ => ne_rl)).trans h.c0, h0, fun z => absurd z (Nat.succ_ne_zero _), fun _ => h1, fun j hj => ?_, (kp _ _ h.ca (fun _ => ne_lr) (fun _ => ne_ll (by decide))).trans h.ca, (kp _ _ h.hi (fun _ => ne_rr (by decide)) (fun _ => ne_rl)).trans h.hi, (kp _ _ h.ha (fun _ => ne_lr) (fun _ => ne_ll (by decide))).trans h.ha, fun j hj => ?_, fun i j hi hj e => ?_, fun i hi => ?_⟩
  · have hj' : j < mN M + 1 := hj
    show qf j = some (va_up (aTk A) (mN M) t j)
    by_cases e : j = mN M
    · subst e; rw [va_up_s]; exact h4
    · rw [va_up_n _ _ e]; exact h5 j (by omega)
  · have hj' : j < mN M + 1 := hj
    show TkP g w1 (va_up (aTk A) (mN M) t j) (va_up (aSl A) (mN M) sl j) (va_up (aSe A) (mN M) g.2.2.2 j) (va_up (aJq A) (mN M) jq j) (va_up (aRa A) (mN M) ra j) (aSa A j) (va_up (aMs A) (mN M) 0 j) (aQs A j) (va_up (mTs M) (mN M) x j) (va_up (mNs M) (mN M) 0 j) (mSc M j) (va_up (mTd M) (mN M) (of, fun _ => 0, 0, 0, 0, 0, 0, 0, 0) j)
    by_cases e : j = mN M
    · subst e
      rw [va_up_s, va_up_s, va_up_s, va_up_s, va_up_s, va_up_s, va_up_s, va_up_s, va_up_s]
      exact ⟨kt, ksl, fun _ => rfl, fun z => absurd z (by omega), fun k hk => absurd hk (by omega), fun k hk => absurd hk (by omega), kjq, kra⟩
    · rw [va_up_n _ _ e, va_up_n _ _ e, va_up_n _ _ e, va_up_n _ _ e, va_up_n _ _ e, va_up_n _ _ e, va_up_n _ _ e, va_up_n _ _ e, va_up_n _ _ e]
      have hj2 : j < mN M := by omega
      have hk := h.tk j hj2
      obtain ⟨gt, gsl, gs0, gse, gqf, gsa, gjq, gra⟩ := id hk
      exact hk.keep (kp _ _ gt (fun _ => ne_rr (by decide)) (fun _ => ne_rl)) (kq _ _ gsl (h.d2 j hj2).1 (nte _ _ gsl (fun _ => ne_rl))) (fun z => kq _ _ (gse z) (fw_ne (gse z) h.tl ne_lr) (hse j hj2 z)) (kp _ _ gjq (fun _ => ne_rr (by decide)) (fun _ => ne_rl)) (kp _ _ gra (fun _ => ne_lr) (fun _ => ne_ll (by decide))) (fun k hk => kp _ _ (gsa k hk) (fun _ => ne_rr (by decide)) (fun _ => ne_rl))
  · have hi' : i < mN M + 1 := hi
    have hj' : j < mN M + 1 := hj
    show va_up (aTk A) (mN M) t i ≠ va_up (aTk A) (mN M) t j ∧ va_up (aSl A) (mN M) sl i ≠ va_up (aSl A) (mN M) sl j ∧ va_up (aJq A) (mN M) jq i ≠ va_up (aJq A) (mN M) jq j ∧ va_up (aRa A) (mN M) ra i ≠ va_up (aRa A) (mN M) ra j ∧ (0 < va_up (mNs M) (mN M) 0 i → 0 < va_up (mNs M) (mN M) 0 j → va_up (aSe A) (mN M) g.2.2.2 i ≠ va_up (aSe A) (mN M) g.2.2.2 j)
    by_cases ei : i = mN M
    · have ej : j ≠ mN M := fun z => e (ei.trans z.symm)
      have hk := h.tk j (by omega)
      rw [ei, va_up_s, va_up_s, va_up_s, va_up_s, va_up_s, va_up_n _ _ ej, va_up_n _ _ ej, va_up_n _ _ ej, va_up_n _ _ ej, va_up_n _ _ ej, va_up_n _ _ ej]
      exact ⟨Ne.symm (fw_new_ne hk.1 n1), Ne.symm (fw_new_ne hk.2.1 n2), Ne.symm (fw_new_ne hk.2.2.2.2.2.2.1 n3), Ne.symm (fw_new_ne hk.2.2.2.2.2.2.2 n4), fun z => absurd z (by omega)⟩
    · have hk := h.tk i (by omega)
      rw [va_up_n _ _ ei, va_up_n _ _ ei, va_up_n _ _ ei, va_up_n _ _ ei, va_up_n _ _ ei, va_up_n _ _ ei]
      by_cases ej : j = mN M
      · rw [ej, va_up_s, va_up_s, va_up_s, va_up_s, va_up_s]
        exact ⟨fw_new_ne hk.1 n1, fw_new_ne hk.2.1 n2, fw_new_ne hk.2.2.2.2.2.2.1 n3, fw_new_ne hk.2.2.2.2.2.2.2 n4, fun _ z => absurd z (by omega)⟩
      · rw [va_up_n _ _ ej, va_up_n _ _ ej, va_up_n _ _ ej, va_up_n _ _ ej, va_up_n _ _ ej, va_up_n _ _ ej]
        exact h.d1 i j (by omega) (by omega) e
  · have hi' : i < mN M + 1 := hi
    show va_up (aSl A) (mN M) sl i ≠ aTl A ∧ (0 < va_up (mNs M) (mN M) 0 i → va_up (aSe A) (mN M) g.2.2.2 i ≠ te)
    by_cases ei : i = mN M
    · rw [ei, va_up_s, va_up_s, va_up_s]
      exact ⟨Ne.symm (fw_new_ne h.tl n2), fun z => absurd z (by omega)⟩
    · rw [va_up_n _ _ ei, va_up_n _ _ ei, va_up_n _ _ ei]
      exact ⟨(h.d2 i (by omega)).1, hse i (by omega)⟩
theorem CsO.addSec {O : Nat → Prop} (h : CsO O a A M) {t q se : Nat} {mo : Int} {qf : Nat → Option Nat} {x : SecT} (ht : t < mN M) (hs : (0 < mNs M t ∧ se = aSe A t) ∨ w se = none) : CsO (fun y => O y ∨ w y = none) a (secA A t q se mo qf (mNs M t)) (secM M t x) := by
  obtain ⟨o1, o2, o3, o4, o5, o6, o7⟩ := h
  refine ⟨Or.inl o1, Or.inl o2, Or.inl o3, Or.inl o4, Or.inl o5, fun z => Or.inl (o6 z), fun i hi => ?_⟩
  obtain ⟨p1, p2, p3, p4, p5⟩ := o7 i hi
  refine ⟨Or.inl p1, Or.inl p2, Or.inl p3, Or.inl p4, ?_⟩
  show 0 < va_up (mNs M) t (mNs M t + 1) i → (O (va_up (aSe A) t se i) ∨ w (va_up (aSe A) t se i) = none)
  by_cases ei : i = t
  · subst ei
    rw [va_up_s, va_up_s]
    exact fun _ => hs.elim (fun z => Or.inl (by rw [z.2]; exact p5 z.1)) Or.inr
  · rw [va_up_n _ _ ei, va_up_n _ _ ei]
    exact fun z => Or.inl (p5 z)
theorem CsO.addTask {O : Nat → Prop} (h : CsO O a A M) {t sl jq ra te e0 : Nat} {mo : Int} {qf : Nat → Option Nat} {x : TkS} {of : Int} (n1 : w t = none) (n2 : w sl = none) (n3 : w jq = none) (n4 : w ra = none) (hs : (0 < mN M ∧ te = aTe A) ∨ w te = none) : CsO (fun y => O y ∨ w y = none) a (tskA A (mN M) t sl jq ra te mo qf e0) (tskM M x of) := by
  obtain ⟨o1, o2, o3, o4, o5, o6, o7⟩ := h
  refine ⟨Or.inl o1, Or.inl o2, Or.inl o3, Or.inl o4, Or.inl o5, fun _ => hs.elim (fun z => Or.inl (by show O te; rw [z.2]; exact o6 z.1)) Or.inr, fun i hi => ?_⟩
  have hi' : i < mN M + 1 := hi
  show (O (va_up (aTk A) (mN M) t i) ∨ w (va_up (aTk A) (mN M) t i) = none) ∧ (O (va_up (aSl A) (mN M) sl i) ∨ w (va_up (aSl A) (mN M) sl i) = none) ∧ (O (va_up (aJq A) (mN M) jq i) ∨ w (va_up (aJq A) (mN M) jq i) = none) ∧ (O (va_up (aRa A) (mN M) ra i) ∨ w (va_up (aRa A) (mN M) ra i) = none) ∧ (0 < va_up (mNs M) (mN M) 0 i → (O (va_up (aSe A) (mN M) e0 i) ∨ w (va_up (aSe A) (mN M) e0 i) = none))
  by_cases ei : i = mN M
  · rw [ei, va_up_s, va_up_s, va_up_s, va_up_s, va_up_s]
    exact ⟨Or.inr n1, Or.inr n2, Or.inr n3, Or.inr n4, fun z => absurd z (by omega)⟩
  · rw [va_up_n _ _ ei, va_up_n _ _ ei, va_up_n _ _ ei, va_up_n _ _ ei, va_up_n _ _ ei, va_up_n _ _ ei]
    obtain ⟨p1, p2, p3, p4, p5⟩ := o7 i (by omega)
    exact ⟨Or.inl p1, Or.inl p2, Or.inl p3, Or.inl p4, fun z => Or.inl (p5 z)⟩
theorem CsO.grow {O : Nat → Prop} (h : CsO O a A M) : CsO (fun y => O y ∨ w y = none) a A M := by
  obtain ⟨o1, o2, o3, o4, o5, o6, o7⟩ := h
  exact ⟨Or.inl o1, Or.inl o2, Or.inl o3, Or.inl o4, Or.inl o5, fun z => Or.inl (o6 z), fun i hi => ⟨Or.inl (o7 i hi).1, Or.inl (o7 i hi).2.1, Or.inl (o7 i hi).2.2.1, Or.inl (o7 i hi).2.2.2.1, fun z => Or.inl ((o7 i hi).2.2.2.2 z)⟩⟩
end UPD2
def dfR (M : CsM) (p c d pr of : Int) : Int := if mSt M = true ∨ (p < 2 ∨ 60 < p) ∨ (c < 1 ∨ p < c) ∨ (d < 1 ∨ p < d) ∨ (pr < 1 ∨ 10 < pr) ∨ (of < -1 ∨ 59 < of) then -1 else if 6 ≤ (mN M : Int) then -2 else (mN M : Int)
def dfM (M : CsM) (p c d pr of : Int) : CsM := if 0 ≤ dfR M p c d pr of then tskM M (p, c, d, pr, decide (of = -1)) of else M
def scR (M : CsM) (v o x y : Int) : Int :=
  if mSt M = true ∨ (v < 0 ∨ (mN M : Int) - 1 < v) ∨ (o < 0 ∨ 3 < o) ∨ (x < 0 ∨ 59 < x) ∨ (y < 1 ∨ 60 < y) then -1
  else if sCst (mTs M v.toNat) < x + y ∨ hsW (mSc M v.toNat) x (x + y) (mNs M v.toNat) 0 = true ∨ mCe M o.toNat < sPri (mTs M v.toNat) then -1
  else if 3 ≤ (mNs M v.toNat : Int) then -2 else 0
def scM (M : CsM) (v o x y : Int) : CsM := if scR M v o x y = 0 then secM M v.toNat (o, x, y) else M
