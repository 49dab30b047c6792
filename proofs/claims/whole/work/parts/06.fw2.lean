/-! Worlds as functions: what lies at an address; nothing else is said of the heap. -/
abbrev fw : Type := Nat → Option va_E
def fU (w : fw) (a : Nat) (x : va_E) : fw := fun q => if q = a then some x else w q
theorem fU_s (w : fw) (a : Nat) (x : va_E) : fU w a x a = some x := if_pos rfl
theorem fU_n {w : fw} {a b : Nat} {x : va_E} (h : b ≠ a) : fU w a x b = w b := if_neg h
theorem fU_k {w : fw} {a b : Nat} {x y : va_E} (h : b ≠ a) (hb : w b = some y) : fU w a x b = some y := (fU_n h).trans hb
theorem fU_uu (w : fw) (a : Nat) (x y : va_E) : fU (fU w a x) a y = fU w a y := by
  funext q
  by_cases h : q = a
  · simp [fU, h]
  · simp [fU, h]
theorem fU_self {w : fw} {a : Nat} {x : va_E} (h : w a = some x) : fU w a x = w := by
  funext q
  by_cases hq : q = a
  · subst hq; rw [fU_s, h]
  · rw [fU_n hq]
theorem fU_none {w : fw} {a q : Nat} {x : va_E} (h : fU w a x q = none) : w q = none := by
  by_cases hq : q = a
  · subst hq; rw [fU_s] at h; cases h
  · rw [fU_n hq] at h; exact h
/-- two places that hold different things are two -/
theorem fw_ne {w : fw} {a b : Nat} {x y : va_E} (ha : w a = some x) (hb : w b = some y) (h : x ≠ y) : a ≠ b := fun q => h (Option.some.inj (ha.symm.trans (q ▸ hb)))
theorem fw_new_ne {w : fw} {a b : Nat} {x : va_E} (ha : w a = some x) (hb : w b = none) : a ≠ b := fun q => by rw [q, hb] at ha; cases ha
theorem ne_rr {i j : Nat} {fs gs : List Value} (h : i ≠ j) : (Sum.inr (i, fs) : va_E) ≠ Sum.inr (j, gs) := fun q => h (by cases q; rfl)
theorem ne_lr {x : ClassId × vp_A} {y : Nat × List Value} : (Sum.inl x : va_E) ≠ Sum.inr y := fun q => by cases q
theorem ne_rl {x : ClassId × vp_A} {y : Nat × List Value} : (Sum.inr y : va_E) ≠ Sum.inl x := fun q => by cases q
theorem ne_ll {cA cB : ClassId} {i j : Nat} {f g : (Nat → Int32) ⊕ (Nat → Int64) ⊕ (Nat → UInt32) ⊕ (Nat → UInt64) ⊕ (Nat → Option Nat)} (h : i ≠ j) : (Sum.inl (cA, i, f) : va_E) ≠ Sum.inl (cB, j, g) := fun q => h (by cases q; rfl)
/-- an int array, an array of references -/
abbrev aZ (cI : ClassId) (n : Nat) (f : Nat → Int) : va_E := .inl (cI, n, .inl (fun j => iZ (f j)))
abbrev aQ (cO : ClassId) (n : Nat) (f : Nat → Option Nat) : va_E := .inl (cO, n, .inr (.inr (.inr (.inr f))))
def fP (D : va_G) (w : fw) (H : Heap) : Prop := ∀ (a : Nat) (x : va_E), w a = some x → va_at D vwCl (a, x) H
def fIn (A : Nat → Prop) (w : fw) : Prop := ∀ (a : Nat) (x : va_E), w a = some x → A a
def fA (w : fw) (sz : Nat) : Nat → Prop := fun q => (∃ x, w q = some x) ∨ sz ≤ q
theorem fIn_self (w : fw) (sz : Nat) : fIn (fA w sz) w := fun a x h => Or.inl ⟨x, h⟩
theorem fP.one {D : va_G} {w : fw} {H : Heap} (h : fP D w H) {a : Nat} {x : va_E} (ha : w a = some x) : va_P D vwCl [(a, x)] H := fun k q hk => by
  match k, hk with
  | 0, hk => cases hk; exact h a x ha
  | k + 1, hk => simp at hk
theorem fP.lt {D : va_G} {w : fw} {H : Heap} (h : fP D w H) {a : Nat} {x : va_E} (ha : w a = some x) : a < H.size := (h a x ha).lt
theorem fP.none {D : va_G} {w : fw} {H : Heap} (h : fP D w H) : w H.size = none := by
  cases hw : w H.size with
  | none => rfl
  | some x => exact absurd (h.lt hw) (Nat.lt_irrefl _)
theorem fP.upd {D : va_G} {w : fw} {H H1 : Heap} (h : fP D w H) {a : Nat} {x : va_E} (hx : va_at D vwCl (a, x) H1) (oq : ∀ q : Nat, q ≠ a → H1[q]? = H[q]?) : fP D (fU w a x) H1 := fun b y hb => by
  by_cases hq : b = a
  · subst hq
    rw [fU_s] at hb
    cases hb
    exact hx
  · rw [fU_n hq] at hb
    exact (h b y hb).kept (oq b hq)
theorem fP.grow {D : va_G} {w : fw} {H H1 : Heap} (h : fP D w H) {x : va_E} (hx : va_at D vwCl (H.size, x) H1) (oq : ∀ q : Nat, q < H.size → H1[q]? = H[q]?) : fP D (fU w H.size x) H1 := fun b y hb => by
  by_cases hq : b = H.size
  · subst hq
    rw [fU_s] at hb
    cases hb
    exact hx
  · rw [fU_n hq] at hb
    exact (h b y hb).kept (oq b (h.lt hb))
theorem fIn.upd {A : Nat → Prop} {w : fw} (h : fIn A w) {a : Nat} {x : va_E} (ha : A a) : fIn A (fU w a x) := fun b y hb => by
  by_cases hq : b = a
  · subst hq; exact ha
  · rw [fU_n hq] at hb; exact h b y hb
/-- constants of a run: the classes' numbers and slots, the class of int arrays, of arrays of Object, the empty array of ArrayList -/
abbrev GG : Type := va_G × ClassId × ClassId × Nat
abbrev obj : String := "java/lang/Object"
theorem nw_warm {x : Cond} (hx : nwOk x = true) {s U : State} (hW : s.WarmedH U.vm) (hZ : va_Nw x s) : va_Nw x U := by
  cases x <;> first
    | exact va_Nw.warmF hW hZ
    | exact va_Nw.warmM hW hZ
    | exact va_Nw.warmC hW hZ
    | exact absurd hx (by simp [nwOk])
theorem nw_same {x : Cond} (hx : nwOk x = true) {s U : State} (h : s.vm = U.vm) (hZ : va_Nw x s) : va_Nw x U := by
  cases x <;> first
    | exact va_Nw.same rfl h hZ
    | exact absurd hx (by simp [nwOk])
def KK (g : GG) (U : State) : Prop := va_K g.1 vwCl [(g.2.1, .int), (g.2.2.1, .object obj)] U ∧ (∀ x ∈ nwL, va_Nw x U) ∧ va_AO obj U
theorem nwL_ok : ∀ x ∈ nwL, nwOk x = true := fun x h => (List.mem_filter.mp h).2
theorem KK.warm {g : GG} {s U : State} (hW : s.WarmedH U.vm) (h : KK g s) : KK g U := ⟨va_K.moved hW.alike h.1, fun x hx => nw_warm (nwL_ok x hx) hW (h.2.1 x hx), h.2.2.moved hW.alike⟩
theorem KK.same {g : GG} {s U : State} (hv : s.vm = U.vm) (h : KK g s) : KK g U := ⟨va_K.moved (by rw [hv]; exact Vm.Alike.refl _) h.1, fun x hx => nw_same (nwL_ok x hx) hv (h.2.1 x hx), h.2.2.moved (by rw [hv]; exact Vm.Alike.refl _)⟩
def ST (g : GG) (A : Nat → Prop) (U : State) (H : Heap) : Prop := va_Z "java/util/ArrayList" "DEFAULTCAPACITY_EMPTY_ELEMENTDATA" "[Ljava/lang/Object;" (.ref g.2.2.2) A U H ∧ va_T (.object obj) g.2.2.2 0 (fun _ => .null) A U H
theorem ST.to {g : GG} {A B : Nat → Prop} {u U : State} {H H1 : Heap} (h : ST g A u H) (hvm : u.vm.Alike U.vm) (hq : ∀ a : Nat, a < H.size → ¬ A a → H1[a]? = H[a]?) (hAB : ∀ q, B q → A q) : ST g B U H1 := ⟨((h.1.moved hvm).kept hq).narrow hAB, ((h.2.moved hvm).kept hq).narrow hAB⟩
/-! Contracts. Read only: the heap stays, the answer is v. -/
def roP (g : GG) (w : fw) (av : List Value) : Array Value → State → Prop := va_Pc av (fun U => KK g U ∧ fP g.1 w U.heap)
theorem roP_blind {g : GG} {w : fw} {av : List Value} : FrameBlind (roP g w av) := fun a U gf mk q => by
  obtain ⟨q0, q1, q2⟩ := q
  exact ⟨q0, KK.same (s := U) (U := U.calling gf mk a) rfl q1, q2⟩
theorem roP_pre {g : GG} {w : fw} {av : List Value} {s : State} {H : Heap} (hK : KK g s) (hP : fP g.1 w H) : ∀ U : State, U.heap = H → s.WarmedH U.vm → roP g w av av.toArray U := fun U hU hW => ⟨rfl, hK.warm hW, by rw [hU]; exact hP⟩
abbrev RO (l : Launch) (y : MethodName) (ws : List Cond) (rm : Room) (g : GG) (w : fw) (av : List Value) (v : Value) : Prop := Met l y ws rm (roP g w av) (k2_QcV v) 0 0 (fun _ => False)
/-! Writing: the world behind is the answer's. -/
def rwP (g : GG) (w : fw) (sz : Nat) (av : List Value) : Array Value → State → Prop := va_Pc av (fun U => U.heap.size = sz ∧ KK g U ∧ ST g (fA w sz) U U.heap ∧ fP g.1 w U.heap)
theorem rwP_blind {g : GG} {w : fw} {sz : Nat} {av : List Value} : FrameBlind (rwP g w sz av) := fun a U gf mk q => by
  obtain ⟨q0, qz, q1, q3, q2⟩ := q
  exact ⟨q0, qz, KK.same (s := U) (U := U.calling gf mk a) rfl q1, q3.to (Vm.Alike.refl _) (fun _ _ _ => rfl) (fun _ h => h), q2⟩
/-- the world of a writing walk -/
def fW (g : GG) (A : Nat → Prop) (s : State) (H : Heap) (locs : List Loc) (w : fw) : Prop := fP g.1 w H ∧ fIn A w ∧ va_S A s.heap H locs
theorem fW_to {g : GG} {A : Nat → Prop} {s : State} {H : Heap} {locs : List Loc} {w1 w2 : fw} (e : w1 = w2) (h : fW g A s H locs w2) : fW g A s H locs w1 := by rw [e]; exact h
theorem fA_sub {g : GG} {A : Nat → Prop} {s : State} {H : Heap} {locs : List Loc} {w : fw} (h : fW g A s H locs w) (hA : ∀ q : Nat, s.heap.size ≤ q → A q) : ∀ q, fA w H.size q → A q := fun q hq => by
  rcases hq with ⟨x, hx⟩ | hq
  · exact h.2.1 q x hx
  · exact hA q (Nat.le_trans h.2.2.1 hq)
theorem rwP_pre {g : GG} {A : Nat → Prop} {w : fw} {av : List Value} {s : State} {H : Heap} {locs : List Loc} (hK : KK g s) (hT : ST g A s s.heap) (hA : ∀ q : Nat, s.heap.size ≤ q → A q) (hF : fW g A s H locs w) : ∀ U : State, U.heap = H → s.WarmedH U.vm → rwP g w H.size av av.toArray U := fun U hU hW =>
  ⟨rfl, by rw [hU], hK.warm hW, hT.to hW.alike (fun a h1 h2 => by rw [hU]; exact hF.2.2.2.1 a h1 h2) (fA_sub hF hA), by rw [hU]; exact hF.1⟩
def rwB (g : GG) (w : fw) (sz : Nat) : fw → State → Prop := fun w' t => fP g.1 w' t.heap ∧ fIn (fA w sz) w'
abbrev RWv (l : Launch) (y : MethodName) (ws : List Cond) (rm : Room) (g : GG) (w : fw) (sz : Nat) (av : List Value) (mc ms : Nat) (post : fw → Prop) : Prop := Met l y ws rm (rwP g w sz av) (va_Qv post (rwB g w sz) (fA w sz)) mc ms (fA w sz)
abbrev RWi (l : Launch) (y : MethodName) (ws : List Cond) (rm : Room) (g : GG) (w : fw) (sz : Nat) (av : List Value) (mc ms : Nat) (post : Int32 → fw → Prop) : Prop := Met l y ws rm (rwP g w sz av) (va_Qi post (rwB g w sz) (fA w sz)) mc ms (fA w sz)
def qrW (g : GG) (w : fw) (sz : Nat) (post : Nat → fw → Prop) : Array Value → State → Outcome → State → Prop := va_Qr (S := fw × Nat) (fun u => post u.2 u.1) (fun u a t => rwB g w sz u.1 t ∧ u.2 = a) (fA w sz)
abbrev RWr (l : Launch) (y : MethodName) (ws : List Cond) (rm : Room) (g : GG) (w : fw) (sz : Nat) (av : List Value) (mc ms : Nat) (post : Nat → fw → Prop) : Prop := Met l y ws rm (rwP g w sz av) (qrW g w sz post) mc ms (fA w sz)
section FWR
variable {p : Program} {l : Launch} {e : Env} {R : Room} {s : State} {m : MethodId} {args : Array Value} {below : List Frame} {meth : Method} {c : Code} {H : Heap} {locs : List Loc} {cells slots : Nat} {Q : State → Prop}
variable {cc : ByteArray} {pc : Nat} {ls : Array Slot} {rest st0 : List Value} {g : GG} {w : fw} {A : Nat → Prop} {a : Nat} {av : Array Value} {mc ms : Nat}
theorem fw_get (hexec : p.tables.exec = Jvm.exec) (hb : c.code = cc) {own ref C : String} {T : u_T} {N ci index : Nat} {Ts : List Cond} (hts : ∀ w ∈ Ts, w.before args s = true) (hin : ∀ w ∈ u_ws C T N, w ∈ Ts) (hown : s.vm.findClass own = some m.cls) (hK : KK g s) (hP : fP g.1 w H) {fs : List Value} (he : w a = some (.inr (ci, fs))) (hc : vwCl[ci]? = some (C, T, N)) (k : Nat) (hk : k < N) (hlink : (Cond.fieldLink own index ref (T k).2.1 (T k).2.2.1).before args s = true) (hsame : ∀ x, s.fieldFound? (T k).1 (T k).2.1 (T k).2.2.1 = some x → s.fieldFound? ref (T k).2.1 (T k).2.2.1 = some x) {v : Value} (hv : fs[k]? = some v) (hdg : decode cc pc = .ok (.getfield index, 3))
    (kk : W p l e R s m args below meth c H locs cells slots Q (F0 m (pc + 3) ls (v :: rest))) : W p l e R s m args below meth c H locs cells slots Q (F0 m pc ls (.ref a :: rest)) :=
  va_get hexec hb hts hin hown hK.1 (hP.one he) 0 rfl hc k hk hlink hsame hv hdg kk
theorem fw_getN (hexec : p.tables.exec = Jvm.exec) (hb : c.code = cc) {own ref C host : String} {T : u_T} {N ci index : Nat} {Ts : List Cond} (hts : ∀ w ∈ Ts, w.before args s = true) (hin : ∀ w ∈ u_ws C T N, w ∈ Ts) (hown : s.vm.findClass own = some m.cls) (hK : KK g s) (hP : fP g.1 w H) {fs : List Value} (he : w a = some (.inr (ci, fs))) (hc : vwCl[ci]? = some (C, T, N)) (k : Nat) (hk : k < N) (hlink : Cond.fieldLinkNest own index ref (T k).2.1 (T k).2.2.1 host ∈ nwL) (hsame : ∀ x, s.fieldFound? (T k).1 (T k).2.1 (T k).2.2.1 = some x → s.fieldFound? ref (T k).2.1 (T k).2.2.1 = some x) {v : Value} (hv : fs[k]? = some v) (hdg : decode cc pc = .ok (.getfield index, 3))
    (kk : W p l e R s m args below meth c H locs cells slots Q (F0 m (pc + 3) ls (v :: rest))) : W p l e R s m args below meth c H locs cells slots Q (F0 m pc ls (.ref a :: rest)) :=
  va_getN hexec hb hts hin hown hK.1 (hP.one he) 0 rfl hc k hk (va_Nw.use rfl (hK.2.1 _ hlink)) hsame hv hdg kk
theorem fw_put (hexec : p.tables.exec = Jvm.exec) (hb : c.code = cc) {own ref C : String} {T : u_T} {N ci index : Nat} {Ts : List Cond} (hts : ∀ w ∈ Ts, w.before args s = true) (hin : ∀ w ∈ u_ws C T N, w ∈ Ts) (ty0 : Nat → FieldType) (hty : ∀ k, k < N → parseFieldDescriptor (T k).2.2.1 = some (ty0 k)) (hnm : ∀ a, a < N → ∀ b, b < N → a ≠ b → (T a).2.1 ≠ (T b).2.1) (hown : s.vm.findClass own = some m.cls) (hK : KK g s) (hF : fW g A s H locs w) {fs : List Value} (he : w a = some (.inr (ci, fs))) (hc : vwCl[ci]? = some (C, T, N)) (k : Nat) (hk : k < N) (hlink : (Cond.fieldLink own index ref (T k).2.1 (T k).2.2.1).before args s = true) (hsame : ∀ x, s.fieldFound? (T k).1 (T k).2.1 (T k).2.2.1 = some x → s.fieldFound? ref (T k).2.1 (T k).2.2.1 = some x) (hfin : (T k).2.2.2 = false) {ty : FieldType} {v : Value} (hd : parseFieldDescriptor (T k).2.2.1 = some ty) (hn : narrow ty v = v) (hfit : fits ty v = true) (hl : k < fs.length)
    (hdg : decode cc pc = .ok (.putfield index, 3)) (kk : ∀ (H1 : Heap) (locs1 : List Loc), fW g A s H1 locs1 (fU w a (.inr (ci, fs.set k v))) → W p l e R s m args below meth c H1 locs1 cells slots Q (F0 m (pc + 3) ls rest)) : W p l e R s m args below meth c H locs cells slots Q (F0 m pc ls (v :: .ref a :: rest)) := by
  have hap := va_apart (own := own) hts hin ty0 hty hnm hK.1 hc
  obtain ⟨r, h1, cell, q1, q2, q3, q4⟩ := hF.1 a _ he
  have hr : r = (C, T, N) := Option.some.inj (h1.symm.trans hc)
  subst hr
  obtain ⟨hS, hfc, kC, hkC, hkind⟩ := hK.1.1 ci _ hc
  obtain ⟨cf, kf, fi, f, hi, hsl⟩ := hS k hk
  have hlay := hts _ (hin _ (u_in_lay hk))
  unfold u_lay at hlay
  rw [if_neg (by rw [hfin]; decide)] at hlay
  have hst := (u_facts hfc hkC (u_lays hts hin hk) hi).1
  have h6 := u_store hfc hkC hkind hlay hi hd hn hfit
  refine W.putK hexec hb (f := f) ⟨hown, hlink, ⟨_, _, _, hsame _ hi⟩, hst⟩ (by rw [q2]; exact h6) q1 q3 (by rw [hsl]; exact k2_hasslot (q4 k hk)) rfl rfl hdg fun H' e1 e2 e3 => ?_
  rw [hsl] at e1 ⊢
  exact kk H' _ ⟨hF.1.upd ⟨_, hc, t_OB.to (V := updV (vp_V fs) k v) ⟨_, e1, q2, q3, t_set q4 hap hk v⟩ (fun j _ => vp_updV_set hl v j)⟩ e3, hF.2.1.upd (hF.2.1 a _ he), hF.2.2.put e2 e3 (hF.2.1 a _ he)⟩
theorem fw_putN (hexec : p.tables.exec = Jvm.exec) (hb : c.code = cc) {own ref C host : String} {T : u_T} {N ci index : Nat} {Ts : List Cond} (hts : ∀ w ∈ Ts, w.before args s = true) (hin : ∀ w ∈ u_ws C T N, w ∈ Ts) (ty0 : Nat → FieldType) (hty : ∀ k, k < N → parseFieldDescriptor (T k).2.2.1 = some (ty0 k)) (hnm : ∀ a, a < N → ∀ b, b < N → a ≠ b → (T a).2.1 ≠ (T b).2.1) (hown : s.vm.findClass own = some m.cls) (hK : KK g s) (hF : fW g A s H locs w) {fs : List Value} (he : w a = some (.inr (ci, fs))) (hc : vwCl[ci]? = some (C, T, N)) (k : Nat) (hk : k < N) (hlink : Cond.fieldLinkNest own index ref (T k).2.1 (T k).2.2.1 host ∈ nwL) (hsame : ∀ x, s.fieldFound? (T k).1 (T k).2.1 (T k).2.2.1 = some x → s.fieldFound? ref (T k).2.1 (T k).2.2.1 = some x) (hfin : (T k).2.2.2 = false) {ty : FieldType} {v : Value} (hd : parseFieldDescriptor (T k).2.2.1 = some ty) (hn : narrow ty v = v) (hfit : fits ty v = true) (hl : k < fs.length)
    (hdg : decode cc pc = .ok (.putfield index, 3)) (kk : ∀ (H1 : Heap) (locs1 : List Loc), fW g A s H1 locs1 (fU w a (.inr (ci, fs.set k v))) → W p l e R s m args below meth c H1 locs1 cells slots Q (F0 m (pc + 3) ls rest)) : W p l e R s m args below meth c H locs cells slots Q (F0 m pc ls (v :: .ref a :: rest)) := by
  have hap := va_apart (own := own) hts hin ty0 hty hnm hK.1 hc
  obtain ⟨r, h1, cell, q1, q2, q3, q4⟩ := hF.1 a _ he
  have hr : r = (C, T, N) := Option.some.inj (h1.symm.trans hc)
  subst hr
  obtain ⟨hS, hfc, kC, hkC, hkind⟩ := hK.1.1 ci _ hc
  obtain ⟨cf, kf, fi, f, hi, hsl⟩ := hS k hk
  have hlay := hts _ (hin _ (u_in_lay hk))
  unfold u_lay at hlay
  rw [if_neg (by rw [hfin]; decide)] at hlay
  have hst := (u_facts hfc hkC (u_lays hts hin hk) hi).1
  have h6 := u_store hfc hkC hkind hlay hi hd hn hfit
  refine va_WputK hexec hb (f := f) hown (va_Nw.use rfl (hK.2.1 _ hlink)) (hsame _ hi) hst (by rw [q2]; exact h6) q1 q3 (by rw [hsl]; exact k2_hasslot (q4 k hk)) rfl rfl hdg fun H' e1 e2 e3 => ?_
  rw [hsl] at e1 ⊢
  exact kk H' _ ⟨hF.1.upd ⟨_, hc, t_OB.to (V := updV (vp_V fs) k v) ⟨_, e1, q2, q3, t_set q4 hap hk v⟩ (fun j _ => vp_updV_set hl v j)⟩ e3, hF.2.1.upd (hF.2.1 a _ he), hF.2.2.put e2 e3 (hF.2.1 a _ he)⟩
theorem fw_putF (hexec : p.tables.exec = Jvm.exec) (hb : c.code = cc) {own ref C : String} {T : u_T} {N ci index : Nat} {Ts : List Cond} (hts : ∀ w ∈ Ts, w.before args s = true) (hin : ∀ w ∈ u_ws C T N, w ∈ Ts) (ty0 : Nat → FieldType) (hty : ∀ k, k < N → parseFieldDescriptor (T k).2.2.1 = some (ty0 k)) (hnm : ∀ a, a < N → ∀ b, b < N → a ≠ b → (T a).2.1 ≠ (T b).2.1) (hown : s.vm.findClass own = some m.cls) (hK : KK g s) (hF : fW g A s H locs w) {fs : List Value} (he : w a = some (.inr (ci, fs))) (hc : vwCl[ci]? = some (C, T, N)) (k : Nat) (hk : k < N) (hlink : (Cond.fieldLink own index ref (T k).2.1 (T k).2.2.1).before args s = true) (hsame : ∀ x, s.fieldFound? (T k).1 (T k).2.1 (T k).2.2.1 = some x → s.fieldFound? ref (T k).2.1 (T k).2.2.1 = some x) (hfin : (T k).2.2.2 = true) (hin2 : meth.name = "<init>") (hdecl : (T k).1 = own) {ty : FieldType} {v : Value} (hd : parseFieldDescriptor (T k).2.2.1 = some ty) (hn : narrow ty v = v) (hfit : fits ty v = true) (hl : k < fs.length)
    (hdg : decode cc pc = .ok (.putfield index, 3)) (kk : ∀ (H1 : Heap) (locs1 : List Loc), fW g A s H1 locs1 (fU w a (.inr (ci, fs.set k v))) → W p l e R s m args below meth c H1 locs1 cells slots Q (F0 m (pc + 3) ls rest)) : W p l e R s m args below meth c H locs cells slots Q (F0 m pc ls (v :: .ref a :: rest)) := by
  have hap := va_apart (own := own) hts hin ty0 hty hnm hK.1 hc
  obtain ⟨r, h1, cell, q1, q2, q3, q4⟩ := hF.1 a _ he
  have hr : r = (C, T, N) := Option.some.inj (h1.symm.trans hc)
  subst hr
  obtain ⟨hS, hfc, kC, hkC, hkind⟩ := hK.1.1 ci _ hc
  obtain ⟨cf, kf, fi, f, hi, hsl⟩ := hS k hk
  have hlay := hts _ (hin _ (u_in_lay hk))
  unfold u_lay at hlay
  rw [if_pos hfin] at hlay
  have hst := (u_facts hfc hkC (u_lays hts hin hk) hi).1
  have hcf : m.cls = cf := by
    obtain ⟨_, _, c', _, _, _, -, -, hf', -, -, -, hown2, -⟩ := Cond.laysFinal_spec hlay
    have e1 : c' = cf := by have := hi.symm.trans hf'; simp at this; exact this.1.symm
    rw [hdecl] at hown2
    rw [← e1]; exact Option.some.inj (hown.symm.trans hown2)
  have h6 := u_fits hfc hkC hkind (Or.inr hlay) hi hd hn hfit
  refine W.putFinK hexec hb hown hlink (hsame _ hi) hst hcf hin2 (by rw [q2]; exact h6) q1 q3 (by rw [hsl]; exact k2_hasslot (q4 k hk)) rfl rfl hdg fun H' e1 e2 e3 => ?_
  rw [hsl] at e1 ⊢
  exact kk H' _ ⟨hF.1.upd ⟨_, hc, t_OB.to (V := updV (vp_V fs) k v) ⟨_, e1, q2, q3, t_set q4 hap hk v⟩ (fun j _ => vp_updV_set hl v j)⟩ e3, hF.2.1.upd (hF.2.1 a _ he), hF.2.2.put e2 e3 (hF.2.1 a _ he)⟩
theorem fw_iald (hexec : p.tables.exec = Jvm.exec) (hb : c.code = cc) (hK : KK g s) (hP : fP g.1 w H) {n : Nat} {f : Nat → Int} (ha : w a = some (aZ g.2.1 n f)) (hn : n < 2 ^ 31) {k : Int} (j : Nat) (hk : k = (j : Int)) (hj : j < n) (hdg : decode cc pc = .ok (.iaload, 1))
    (kk : W p l e R s m args below meth c H locs cells slots Q (F0 m (pc + 1) ls (.int (iZ (f j)) :: rest))) : W p l e R s m args below meth c H locs cells slots Q (F0 m pc ls (.int (iZ k) :: .ref a :: rest)) := by
  subst hk
  refine va_iald hexec hb hK.1 (hP.one ha) 0 0 rfl rfl (iZ_in (Int.natCast_nonneg j) (by omega) hn) hdg ?_
  rw [iZ_clamp (Int.natCast_nonneg j) (by omega)]
  exact kk
theorem fw_alen (hexec : p.tables.exec = Jvm.exec) (hb : c.code = cc) (hK : KK g s) (hP : fP g.1 w H) {n : Nat} {f : Nat → Int} (ha : w a = some (aZ g.2.1 n f)) (hdg : decode cc pc = .ok (.arraylength, 1))
    (kk : W p l e R s m args below meth c H locs cells slots Q (F0 m (pc + 1) ls (.int (iZ (n : Int)) :: rest))) : W p l e R s m args below meth c H locs cells slots Q (F0 m pc ls (.ref a :: rest)) :=
  va_alen hexec hb hK.1 (hP.one ha) 0 0 rfl rfl (iZ_nI n).symm hdg kk
theorem fw_qlen (hexec : p.tables.exec = Jvm.exec) (hb : c.code = cc) (hK : KK g s) (hP : fP g.1 w H) {n : Nat} {f : Nat → Option Nat} (ha : w a = some (aQ g.2.2.1 n f)) (hdg : decode cc pc = .ok (.arraylength, 1))
    (kk : W p l e R s m args below meth c H locs cells slots Q (F0 m (pc + 1) ls (.int (iZ (n : Int)) :: rest))) : W p l e R s m args below meth c H locs cells slots Q (F0 m pc ls (.ref a :: rest)) :=
  va_alen hexec hb hK.1 (hP.one ha) 0 1 rfl rfl (iZ_nI n).symm hdg kk
theorem fw_qald (hexec : p.tables.exec = Jvm.exec) (hb : c.code = cc) (hK : KK g s) (hP : fP g.1 w H) {n : Nat} {f : Nat → Option Nat} (ha : w a = some (aQ g.2.2.1 n f)) (hn : n < 2 ^ 31) {k : Int} (j b : Nat) (hk : k = (j : Int)) (hj : j < n) (hv : f j = some b) (hdg : decode cc pc = .ok (.aaload, 1))
    (kk : W p l e R s m args below meth c H locs cells slots Q (F0 m (pc + 1) ls (.ref b :: rest))) : W p l e R s m args below meth c H locs cells slots Q (F0 m pc ls (.int (iZ k) :: .ref a :: rest)) := by
  subst hk
  refine va_aldq hexec hb hK.1 (hP.one ha) 0 1 rfl rfl (iZ_in (Int.natCast_nonneg j) (by omega) hn) hdg ?_
  rw [iZ_clamp (Int.natCast_nonneg j) (by omega)]
  show W p l e R s m args below meth c H locs cells slots Q (F0 m (pc + 1) ls (va_rf (f j) :: rest))
  rw [hv]
  exact kk
theorem fw_iast (hexec : p.tables.exec = Jvm.exec) (hb : c.code = cc) (hK : KK g s) (hF : fW g A s H locs w) {n : Nat} {f : Nat → Int} (ha : w a = some (aZ g.2.1 n f)) (hn : n < 2 ^ 31) {k x : Int} (j : Nat) (hk : k = (j : Int)) (hj : j < n) (hdg : decode cc pc = .ok (.iastore, 1))
    (kk : ∀ (H1 : Heap) (locs1 : List Loc), fW g A s H1 locs1 (fU w a (aZ g.2.1 n (va_up f j x))) → W p l e R s m args below meth c H1 locs1 cells slots Q (F0 m (pc + 1) ls rest)) : W p l e R s m args below meth c H locs cells slots Q (F0 m pc ls (.int (iZ x) :: .int (iZ k) :: .ref a :: rest)) := by
  subst hk
  have hin : vp_in (iZ (j : Int)) n := iZ_in (Int.natCast_nonneg j) (by omega) hn
  refine W.iast hexec hb (hF.1 a _ ha) ((hK.1.2 0 _ rfl).1 n (fun j => .int (iZ (f j)))) (fun q => by cases q) (by show ¬ (_ < 0 ∨ (arrV _ _ _).slots.size ≤ _); rw [arrV_size]; exact hin) rfl rfl hdg fun H1 e z oq => ?_
  refine kk H1 _ ⟨hF.1.upd ?_ oq, hF.2.1.upd (hF.2.1 a _ ha), hF.2.2.put z oq (hF.2.1 a _ ha)⟩
  show H1[a]? = some (vp_cell _ _)
  rw [e]
  rw [vp_cell_i, vp_cell_i, arrV_store, iZ_clamp (Int.natCast_nonneg j) (by omega)]
  congr 2
  funext q
  show updV _ j _ q = _
  by_cases hq : q = j
  · subst hq
    simp [updV, va_up]
  · simp [updV, va_up, hq]
theorem fw_new {c0 : Code} (hexec : p.tables.exec = Jvm.exec) (hb : c0.code = cc) {own C : String} {T : u_T} {N ci index : Nat} {Ts : List Cond} (hts : ∀ w ∈ Ts, w.before args s = true) (hin : ∀ w ∈ u_ws C T N, w ∈ Ts) (ty : Nat → FieldType) (hty : ∀ k, k < N → parseFieldDescriptor (T k).2.2.1 = some (ty k)) (hown : s.vm.findClass own = some m.cls) (hcl : (Cond.classLink own index C).before args s = true) (hinst : (Cond.instantiable C N).before args s = true) (hini : (Cond.initialized C).before args s = true)
    (hK : KK g s) (hF : fW g A s H locs w) (hA : ∀ q, s.heap.size ≤ q → A q) (hc : vwCl[ci]? = some (C, T, N)) {fs : List Value} (hfs : ∀ j, j < N → defaultValue (ty j) = vp_V fs j) (hcells : cells + 1 ≤ R.cells) (hslots : slots + N ≤ R.slots) (hdg : decode cc pc = .ok (.new index, 3))
    (kk : ∀ (q : Nat) (H1 : Heap), w q = none → fW g A s H1 locs (fU w q (.inr (ci, fs))) →
      W p l e R s m args below meth c0 H1 locs (cells + 1) (slots + N) Q (F0 m (pc + 3) ls (.ref q :: rest))) : W p l e R s m args below meth c0 H locs cells slots Q (F0 m pc ls rest) := by
  have hKn := hK.1.1 ci _ hc
  refine W.newcK hexec hb hown hcl hinst hini rfl hdg hcells hslots hKn.2.1 rfl fun H1 kC hkC e1 z1 o1 => ?_
  exact kk H.size H1 hF.1.none ⟨hF.1.grow ⟨_, hc, (u_born ty hts hin hKn hkC e1 hty).to hfs⟩ o1, hF.2.1.upd (hA _ hF.2.2.1), ⟨Nat.le_trans hF.2.2.1 (by omega), fun x h1 h2 => (o1 x (Nat.lt_of_lt_of_le h1 hF.2.2.1)).trans (hF.2.2.2.1 x h1 h2), hF.2.2.2.2⟩⟩
theorem fw_newa (hexec : p.tables.exec = Jvm.exec) (hb : c.code = cc) (harr : (Cond.arrayClass .int).before args s = true) (hK : KK g s) (hF : fW g A s H locs w) (hA : ∀ q, s.heap.size ≤ q → A q)
    {n : Int} {N : Nat} (hN : n = (N : Int)) (hN2 : N ≤ 100000) (hcells : cells + 1 ≤ R.cells) (hslots : slots + N ≤ R.slots) (hdg : decode cc pc = .ok (.newarray .int, 2))
    (kk : ∀ (q : Nat) (H1 : Heap), w q = none → fW g A s H1 locs (fU w q (aZ g.2.1 N (fun _ => 0))) →
      W p l e R s m args below meth c H1 locs (cells + 1) (slots + N) Q (F0 m (pc + 2) ls (.ref q :: rest))) : W p l e R s m args below meth c H locs cells slots Q (F0 m pc ls (.int (iZ n) :: rest)) := by
  subst hN
  refine va_newaK (atype := .int) hexec hb harr rfl hdg rfl (by rw [← iZ_0, iZ_lt ⟨by omega, by omega⟩ ir0]; omega) (iZ_clamp (Int.natCast_nonneg N) (by omega)) (by show N * 4 ≤ _; omega) hcells hslots rfl fun H1 cA e1 z1 o1 hAr hNm => ?_
  have hcA : cA = g.2.1 := Option.some.inj (hNm.symm.trans (hK.1.2 0 _ rfl).2)
  subst hcA
  refine kk H.size H1 hF.1.none ⟨hF.1.grow ?_ o1, hF.2.1.upd (hA _ hF.2.2.1), ⟨Nat.le_trans hF.2.2.1 (by omega), fun x h1 h2 => (o1 x (Nat.lt_of_lt_of_le h1 hF.2.2.1)).trans (hF.2.2.2.1 x h1 h2), hF.2.2.2.2⟩⟩
  show H1[H.size]? = some (vp_cell _ _)
  rw [e1, vp_cell_i]
  rfl
theorem fw_newq (hexec : p.tables.exec = Jvm.exec) (hb : c.code = cc) {own : String} {index : Nat} (hown : s.vm.findClass own = some m.cls) (hclink : (Cond.classLink own index obj).before args s = true) (hK : KK g s) (hF : fW g A s H locs w) (hA : ∀ q, s.heap.size ≤ q → A q)
    {n : Int} {N : Nat} (hN : n = (N : Int)) (hN2 : N ≤ 100000) (hcells : cells + 1 ≤ R.cells) (hslots : slots + N ≤ R.slots) (hdg : decode cc pc = .ok (.anewarray index, 3))
    (kk : ∀ (q : Nat) (H1 : Heap), w q = none → fW g A s H1 locs (fU w q (aQ g.2.2.1 N (fun _ => none))) →
      W p l e R s m args below meth c H1 locs (cells + 1) (slots + N) Q (F0 m (pc + 3) ls (.ref q :: rest))) : W p l e R s m args below meth c H locs cells slots Q (F0 m pc ls (.int (iZ n) :: rest)) := by
  subst hN
  have hcl : (iZ (N : Int)).toNatClampNeg = N := iZ_clamp (Int.natCast_nonneg N) (by omega)
  refine W.anew hexec hb hown hclink (va_AO.use hK.2.2) rfl hdg rfl (by rw [← iZ_0, iZ_lt ⟨by omega, by omega⟩ ir0]; omega) (by rw [hcl]; omega) hcells (by rw [hcl]; exact hslots) fun cA kA comp f1 f2 f3 f4 => ?_
  rw [hcl]
  obtain ⟨kA2, comp2, k1, k2, k3, k4⟩ := (hK.1.2 1 _ rfl).2
  have hcA : cA = g.2.2.1 := Option.some.inj (f1.symm.trans k4)
  subst hcA
  generalize hH1 : H.push ({ cls := g.2.2.1, slots := Array.replicate N .null, vm := .none } : Cell) = H1
  have z1 : H1.size = H.size + 1 := by rw [← hH1, Array.size_push]
  have e1 : H1[H.size]? = some (arrV g.2.2.1 N (fun _ => .null)) := by rw [← hH1, Array.getElem?_push_size, ← arrV_new]
  have o1 : ∀ q : Nat, q < H.size → H1[q]? = H[q]? := fun q hq => by rw [← hH1, Array.getElem?_push, if_neg (Nat.ne_of_lt hq)]
  refine kk H.size H1 hF.1.none ⟨hF.1.grow ?_ o1, hF.2.1.upd (hA _ hF.2.2.1), ⟨Nat.le_trans hF.2.2.1 (by omega), fun x h1 h2 => (o1 x (Nat.lt_of_lt_of_le h1 hF.2.2.1)).trans (hF.2.2.2.1 x h1 h2), hF.2.2.2.2⟩⟩
  show H1[H.size]? = some (vp_cell _ _)
  rw [vp_cell_q]
  exact e1
theorem fw_qast (hexec : p.tables.exec = Jvm.exec) (hb : c.code = cc) (hK : KK g s) (hF : fW g A s H locs w) {n v ci : Nat} {f : Nat → Option Nat} {vs : List Value} {r : vw_C} (ha : w a = some (aQ g.2.2.1 n f)) (hn : n < 2 ^ 31) (hv : w v = some (.inr (ci, vs))) (hc : vwCl[ci]? = some r) (hca : Cond.castable r.1 obj ∈ nwL) {k : Int} (j : Nat) (hk : k = (j : Int)) (hj : j < n) (hdg : decode cc pc = .ok (.aastore, 1))
    (kk : ∀ (H1 : Heap) (locs1 : List Loc), fW g A s H1 locs1 (fU w a (aQ g.2.2.1 n (va_up f j (some v)))) → W p l e R s m args below meth c H1 locs1 cells slots Q (F0 m (pc + 1) ls rest)) : W p l e R s m args below meth c H locs cells slots Q (F0 m pc ls (.ref v :: .int (iZ k) :: .ref a :: rest)) := by
  subst hk
  have hcl : (iZ (j : Int)).toNatClampNeg = j := iZ_clamp (Int.natCast_nonneg j) (by omega)
  have hin : vp_in (iZ (j : Int)) n := iZ_in (Int.natCast_nonneg j) (by omega) hn
  have hlt : (iZ (j : Int)).toNatClampNeg < n := Nat.not_le.mp fun q => hin (Or.inr q)
  have h0 : ¬ iZ (j : Int) < 0 := fun q => hin (Or.inl q)
  obtain ⟨r', hr', cellV, g1, g2, g3, -⟩ := hF.1 v _ hv
  have hcls := (hK.1.1 ci r hc).2
  obtain ⟨kA, comp, k1, k2, k3, -⟩ := (hK.1.2 1 _ rfl).2
  obtain ⟨kE, hkE, -⟩ := Vm.findClass_spec k3
  obtain ⟨c0, t1, f1, f2, f3⟩ := Cond.castable_spec (va_Nw.use (A := args) rfl (hK.2.1 _ hca))
  cases hcls.1.symm.trans f1
  cases k3.symm.trans f2
  obtain ⟨kC, hkC, -⟩ := hcls.2
  refine W.aast hexec hb (hF.1 a _ ha) (fun q h => by cases h) (fun h => by cases h) k1 k2 rfl hkE ⟨h0, by show _ < (arrV _ _ _).slots.size; rw [arrV_size]; exact hlt⟩ g1 (fun q h => by rw [g3] at h; cases h) (by rw [g2]; exact hkC) (by rw [g2]; exact f3) rfl rfl hdg fun H1 e z oq => ?_
  refine kk H1 _ ⟨hF.1.upd ?_ oq, hF.2.1.upd (hF.2.1 a _ ha), hF.2.2.put z oq (hF.2.1 a _ ha)⟩
  show H1[a]? = some (vp_cell _ _)
  rw [e]
  rw [vp_cell_q, vp_cell_q, arrV_store, hcl]
  congr 2
  funext q
  show updV _ j _ q = _
  by_cases hq : q = j
  · subst hq
    simp [updV, va_up, va_rf]
  · simp [updV, va_up, hq]
/-- the object at a is what a call wants -/
theorem fw_recv (hK : KK g s) (hP : fP g.1 w H) {ci : Nat} {fs : List Value} {q : vw_C} (he : w a = some (.inr (ci, fs))) (hc : vwCl[ci]? = some q) : ∃ cell : Cell, H[a]? = some cell ∧ cell.vm.isStatics = false ∧ s.vm.findClass q.1 = some cell.cls :=
  va_recv hK.1 (hP.one he) hc (q0 := 0) rfl
theorem fw_cast (hexec : p.tables.exec = Jvm.exec) (hb : c.code = cc) {own nm : String} {index : Nat} (hown : s.vm.findClass own = some m.cls) (hlink : (Cond.classLink own index nm).before args s = true) (hK : KK g s) (hP : fP g.1 w H) {ci N : Nat} {T : u_T} {fs : List Value} (he : w a = some (.inr (ci, fs))) (hc : vwCl[ci]? = some (nm, T, N)) (hdg : decode cc pc = .ok (.checkcast index, 3))
    (k : W p l e R s m args below meth c H locs cells slots Q (F0 m (pc + 3) ls (.ref a :: rest))) : W p l e R s m args below meth c H locs cells slots Q (F0 m pc ls (.ref a :: rest)) :=
  va_castS hexec hb hown hlink (hK.1.1 ci _ hc).2 (fw_recv (q := (nm, T, N)) hK hP he hc) hdg k
/-- calls -/
theorem fw_ro {r : Value} (hr : va_Run p l e R s m args below meth c H locs cells slots 0 0 (F0 m pc ls st0) rest (k2_QcV r av) (fun _ => False))
    (kk : W p l e R s m args below meth c H locs cells slots Q (F0 m (pc + 3) ls (r :: rest))) : W p l e R s m args below meth c H locs cells slots Q (F0 m pc ls st0) := by
  intro T hT X
  obtain ⟨v, st₀, t, T', L, h0, X', hL, e1, e2, ⟨hv, hh⟩, st⟩ := hr T hT X
  cases hv
  obtain ⟨t2, a1, b1⟩ := kk T' (by rw [e1, hh, h0]) (Stand.forget X' (fun q h => (hL q h).elim))
  exact ⟨t2, st t2 a1, b1⟩
theorem fIn.back {sz : Nat} {w' : fw} (h : fIn (fA w sz) w') (hs : ∀ q, fA w sz q → A q) : fIn A w' := fun a x hx => hs a (h a x hx)
theorem fw_callv {post : fw → Prop} (hr : va_Run p l e R s m args below meth c H locs cells slots mc ms (F0 m pc ls st0) rest (va_Qv post (rwB g w H.size) (fA w H.size) av) (fA w H.size)) (hF : fW g A s H locs w) (hA : ∀ q, s.heap.size ≤ q → A q)
    (kk : ∀ (w' : fw) (H1 : Heap) (locs1 : List Loc), post w' → H.size ≤ H1.size → fW g A s H1 locs1 w' → W p l e R s m args below meth c H1 locs1 (cells + mc) (slots + ms) Q (F0 m (pc + 3) ls rest)) : W p l e R s m args below meth c H locs cells slots Q (F0 m pc ls st0) :=
  va_callv hr hF.2.2 (fun q _ h => fA_sub hF hA q h) (fA_sub hF hA) (fun u t H1 locs1 ht _ hp hB hz _ hS => kk u H1 locs1 hp hz ⟨by rw [← ht]; exact hB.1, hB.2.back (fA_sub hF hA), hS⟩)
theorem fw_calli {post : Int32 → fw → Prop} (hr : va_Run p l e R s m args below meth c H locs cells slots mc ms (F0 m pc ls st0) rest (va_Qi post (rwB g w H.size) (fA w H.size) av) (fA w H.size)) (hF : fW g A s H locs w) (hA : ∀ q, s.heap.size ≤ q → A q)
    (kk : ∀ (r : Int32) (w' : fw) (H1 : Heap) (locs1 : List Loc), post r w' → H.size ≤ H1.size → fW g A s H1 locs1 w' → W p l e R s m args below meth c H1 locs1 (cells + mc) (slots + ms) Q (F0 m (pc + 3) ls (.int r :: rest))) : W p l e R s m args below meth c H locs cells slots Q (F0 m pc ls st0) :=
  va_calli hr hF.2.2 (fun q _ h => fA_sub hF hA q h) (fA_sub hF hA) (fun r u t H1 locs1 ht _ hp hB hz _ hS => kk r u H1 locs1 hp hz ⟨by rw [← ht]; exact hB.1, hB.2.back (fA_sub hF hA), hS⟩)
theorem fw_callr {post : Nat → fw → Prop} (hr : va_Run p l e R s m args below meth c H locs cells slots mc ms (F0 m pc ls st0) rest (qrW g w H.size post av) (fA w H.size)) (hF : fW g A s H locs w) (hA : ∀ q, s.heap.size ≤ q → A q)
    (kk : ∀ (r : Nat) (w' : fw) (H1 : Heap) (locs1 : List Loc), post r w' → H.size ≤ H1.size → fW g A s H1 locs1 w' → W p l e R s m args below meth c H1 locs1 (cells + mc) (slots + ms) Q (F0 m (pc + 3) ls (.ref r :: rest))) : W p l e R s m args below meth c H locs cells slots Q (F0 m pc ls st0) :=
  va_callr (S := fw × Nat) (post := fun u => post u.2 u.1) (B := fun u a t => rwB g w H.size u.1 t ∧ u.2 = a) hr hF.2.2 (fun q _ h => fA_sub hF hA q h) (fA_sub hF hA) (fun u ra t H1 locs1 ht _ hp hB hz _ hS => by
    obtain ⟨hB1, rfl⟩ := hB
    exact kk u.2 u.1 H1 locs1 hp hz ⟨by rw [← ht]; exact hB1.1, hB1.2.back (fA_sub hF hA), hS⟩)
/-- answers -/
theorem ro_iret {v r : Int32} (hexec : p.tables.exec = Jvm.exec) (hb : c.code = cc) (hr : meth.sig.returnType = some .int) (hlocks : meth.locks = false) (hdg : decode cc pc = .ok (.ireturn, 1)) (hv : v = r) : W p l e R s m args below meth c s.heap [] 0 0 (MQ below (k2_QcV (.int r)) args s 0 0 (fun _ => False)) (F0 m pc ls [.int v]) := by
  subst hv
  exact W.iret hexec hb hr (fun t ht _ => ⟨rfl, ht⟩) (fun _ h => by cases h) hdg hlocks
theorem ro_zret {v : Int32} {bb : Bool} (hexec : p.tables.exec = Jvm.exec) (hb : c.code = cc) (hr : meth.sig.returnType = some .boolean) (hlocks : meth.locks = false) (hdg : decode cc pc = .ok (.ireturn, 1)) (hv : v = bZ bb) : W p l e R s m args below meth c s.heap [] 0 0 (MQ below (k2_QcV (.int (bZ bb))) args s 0 0 (fun _ => False)) (F0 m pc ls [.int v]) := by
  subst hv
  exact W.zret hexec hb hr (bZ_nar bb) (fun t ht _ => ⟨rfl, ht⟩) (fun _ h => by cases h) hdg hlocks
theorem ro_aret {x y : Nat} {rt : FieldType} (hexec : p.tables.exec = Jvm.exec) (hb : c.code = cc) (hr : meth.sig.returnType = some rt) (hrt : (∃ n, rt = .object n) ∨ ∃ t, rt = .array t) (hlocks : meth.locks = false) (hdg : decode cc pc = .ok (.areturn, 1)) (hv : x = y) : W p l e R s m args below meth c s.heap [] 0 0 (MQ below (k2_QcV (.ref y)) args s 0 0 (fun _ => False)) (F0 m pc ls [.ref x]) := by
  subst hv
  exact W.aret hexec hb hr hrt (Or.inr ⟨_, rfl⟩) (fun t ht _ => ⟨rfl, ht⟩) (fun _ h => by cases h) hdg hlocks
theorem rw_vret {post : fw → Prop} {w0 : fw} (hexec : p.tables.exec = Jvm.exec) (hb : c.code = cc) (hr : meth.sig.returnType = none) (hlocks : meth.locks = false) (hdg : decode cc pc = .ok (.return_, 1)) (hc : cells ≤ mc) (hs : slots ≤ ms) (hF : fW g (fA w0 s.heap.size) s H locs w) (hp : post w) : W p l e R s m args below meth c H locs cells slots (MQ below (va_Qv post (rwB g w0 s.heap.size) (fA w0 s.heap.size)) args s mc ms (fA w0 s.heap.size)) (F0 m pc ls []) :=
  W.widen hc hs (W.vret hexec hb hr (fun t ht _ => ⟨⟨w, rfl, hp, by rw [ht]; exact hF.1, hF.2.1⟩, hF.2.2.F ht⟩) hF.2.2.2.2 hdg hlocks)
theorem rw_iret {post : Int32 → fw → Prop} {w0 : fw} {v : Int32} (hexec : p.tables.exec = Jvm.exec) (hb : c.code = cc) (hr : meth.sig.returnType = some .int) (hlocks : meth.locks = false) (hdg : decode cc pc = .ok (.ireturn, 1)) (hc : cells ≤ mc) (hs : slots ≤ ms) (hF : fW g (fA w0 s.heap.size) s H locs w) (hp : post v w) : W p l e R s m args below meth c H locs cells slots (MQ below (va_Qi post (rwB g w0 s.heap.size) (fA w0 s.heap.size)) args s mc ms (fA w0 s.heap.size)) (F0 m pc ls [.int v]) :=
  W.widen hc hs (W.iret hexec hb hr (fun t ht _ => ⟨⟨v, w, rfl, hp, by rw [ht]; exact hF.1, hF.2.1⟩, hF.2.2.F ht⟩) hF.2.2.2.2 hdg hlocks)
theorem rw_zret {post : Int32 → fw → Prop} {w0 : fw} {v : Int32} (hexec : p.tables.exec = Jvm.exec) (hb : c.code = cc) (hr : meth.sig.returnType = some .boolean) (hn : narrow .boolean (.int v) = .int v) (hlocks : meth.locks = false) (hdg : decode cc pc = .ok (.ireturn, 1)) (hc : cells ≤ mc) (hs : slots ≤ ms) (hF : fW g (fA w0 s.heap.size) s H locs w) (hp : post v w) : W p l e R s m args below meth c H locs cells slots (MQ below (va_Qi post (rwB g w0 s.heap.size) (fA w0 s.heap.size)) args s mc ms (fA w0 s.heap.size)) (F0 m pc ls [.int v]) :=
  W.widen hc hs (W.zret hexec hb hr hn (fun t ht _ => ⟨⟨v, w, rfl, hp, by rw [ht]; exact hF.1, hF.2.1⟩, hF.2.2.F ht⟩) hF.2.2.2.2 hdg hlocks)
theorem rw_aret {post : Nat → fw → Prop} {w0 : fw} {v : Nat} {rt : FieldType} (hexec : p.tables.exec = Jvm.exec) (hb : c.code = cc) (hr : meth.sig.returnType = some rt) (hrt : (∃ n, rt = .object n) ∨ ∃ t, rt = .array t) (hlocks : meth.locks = false) (hdg : decode cc pc = .ok (.areturn, 1)) (hc : cells ≤ mc) (hs : slots ≤ ms) (hF : fW g (fA w0 s.heap.size) s H locs w) (hp : post v w) : W p l e R s m args below meth c H locs cells slots (MQ below (qrW g w0 s.heap.size post) args s mc ms (fA w0 s.heap.size)) (F0 m pc ls [.ref v]) :=
  W.widen hc hs (W.aret hexec hb hr hrt (Or.inr ⟨_, rfl⟩) (fun t ht _ => ⟨⟨(w, v), v, rfl, hp, ⟨by rw [ht]; exact hF.1, hF.2.1⟩, rfl⟩, hF.2.2.F ht⟩) hF.2.2.2.2 hdg hlocks)
end FWR
