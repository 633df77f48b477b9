-- own rows: one bundle for the machine at a method's entry (CX), one for the world (ST), contracts' starts and ends
abbrev GE : Type := va_G × (Nat → ClassId)
abbrev TYS (g : GE) : List (ClassId × FieldType) := [(g.2 0, .byte), (g.2 1, .int), (g.2 2, .boolean), (g.2 3, .object RX0), (g.2 4, .object RX2), (g.2 5, .object RX3), (g.2 6, .object RX4)]
abbrev nl6 : Cond := .methodLinkNest RX6 43 yX5_init "SnippetStops"
abbrev nl1 : Cond := .methodLinkNest RX1 11 yX5_init "SnippetStops"
def EN (g : GE) (U : State) : Prop := va_K g.1 vwCl (TYS g) U ∧ (va_AO RX0 U ∧ va_AO RX2 U ∧ va_AO RX3 U ∧ va_AO RX4 U) ∧ va_Nw nl6 U ∧ va_Nw nl1 U
theorem EN.warm {g : GE} {s U : State} (hW : s.WarmedH U.vm) (h : EN g s) : EN g U := by
  obtain ⟨hK, ⟨a0, a2, a3, a4⟩, n6, n1⟩ := h
  exact ⟨va_K.moved hW.alike hK, ⟨a0.moved hW.alike, a2.moved hW.alike, a3.moved hW.alike, a4.moved hW.alike⟩, va_Nw.warmM hW n6, va_Nw.warmM hW n1⟩
theorem EN.calling {g : GE} {U : State} {f : JFrame} {mk : MethodId} {a : Array Value} (h : EN g U) : EN g (U.calling f mk a) := by
  obtain ⟨hK, ⟨a0, a2, a3, a4⟩, n6, n1⟩ := h
  have hv : U.vm.Alike (U.calling f mk a).vm := Vm.Alike.refl U.vm
  exact ⟨va_K.moved (u := U) hv hK, ⟨a0.moved hv, a2.moved hv, a3.moved hv, a4.moved hv⟩, va_Nw.same rfl rfl n6, va_Nw.same rfl rfl n1⟩
def PR (g : GE) (av : List Value) (ws : va_W) (sz : Nat) : Array Value → State → Prop := va_Pc av (fun U => U.heap.size = sz ∧ va_P g.1 vwCl ws U.heap ∧ EN g U ∧ va_D (fun _ => True) ws)
def QB {S : Type} (g : GE) (ws : va_W) (sz : Nat) (w1 : S → va_W) : S → State → Prop := fun u t => va_P g.1 vwCl (w1 u) t.heap ∧ va_D (va_A ws sz) (w1 u)
def QV {S : Type} (g : GE) (ws : va_W) (sz : Nat) (w1 : S → va_W) : Array Value → State → Outcome → State → Prop := va_Qv (fun _ : S => True) (QB g ws sz w1) (va_A ws sz)
def QI {S : Type} (g : GE) (ws : va_W) (sz : Nat) (r : Int32) (w1 : S → va_W) : Array Value → State → Outcome → State → Prop := va_Qi (fun r' (_ : S) => r' = r) (QB g ws sz w1) (va_A ws sz)
def QL {S : Type} (g : GE) (ws : va_W) (sz : Nat) (r : Int64) (w1 : S → va_W) : Array Value → State → Outcome → State → Prop := va_Ql (fun r' (_ : S) => r' = r) (QB g ws sz w1) (va_A ws sz)
def QQ {S : Type} (g : GE) (ws : va_W) (sz : Nat) (r : Option Nat) (w1 : S → va_W) : Array Value → State → Outcome → State → Prop := va_Qq (fun r' (_ : S) => r' = r) (QB g ws sz w1) (va_A ws sz)
def CX (g : GE) (p : Program) (s : State) (m : MethodId) (meth : Method) (c : Code) (args : Array Value) (cc : ByteArray) (nL : Nat) (own nm : String) (ret : Option FieldType) (A : Nat → Prop) : Prop :=
  p.tables.exec = Jvm.exec ∧ c.code = cc ∧ c.maxLocals = nL ∧ s.vm.findClass own = some m.cls ∧ (∀ w ∈ WL, w.before args s = true) ∧ EN g s ∧ (∀ q, s.heap.size ≤ q → A q) ∧ meth.sig.returnType = ret ∧ meth.locks = false ∧ meth.name = nm
def ST (g : GE) (A : Nat → Prop) (s : State) (ws : va_W) (H : Heap) (locs : List Loc) : Prop := va_P g.1 vwCl ws H ∧ va_D A ws ∧ va_S A s.heap H locs
theorem ST.sub {g : GE} {A : Nat → Prop} {s : State} {ws ws' : va_W} {H : Heap} {locs : List Loc} (h : ST g A s ws H locs) (is : List Nat) (hn : va_nd is = true) (hs : is.map (fun i => ws[i]?) = ws'.map some) : ST g A s ws' H locs := by
  refine ⟨h.1.sub is ?_, h.2.1.sub is hn hs, h.2.2⟩
  have e : is.filterMap (fun i => ws[i]?) = (is.map (fun i => ws[i]?)).filterMap id := by rw [List.filterMap_map]; rfl
  rw [e, hs, List.filterMap_map]
  exact List.filterMap_some
/-- a class of the program: its place, its fields, its words -/
def KL (ci : Nat) (C : String) (T : u_T) (N : Nat) (ty : Nat → FieldType) : Prop := vwCl[ci]? = some (C, T, N) ∧ (∀ w ∈ u_ws C T N, w ∈ WL) ∧ (∀ k, k < N → parseFieldDescriptor (T k).2.2.1 = some (ty k)) ∧ (∀ a, a < N → ∀ b, b < N → a ≠ b → (T a).2.1 ≠ (T b).2.1)
theorem kl0 : KL 0 RX0 TX0 10 tyX0 := ⟨rfl, inlX0, tyX0_ok, nmX0⟩
theorem kl1 : KL 1 RX1 TX1 10 tyX1 := ⟨rfl, inlX1, tyX1_ok, nmX1⟩
theorem kl2 : KL 2 RX2 TX2 3 tyX2 := ⟨rfl, inlX2, tyX2_ok, nmX2⟩
theorem kl3 : KL 3 RX3 TX3 8 tyX3 := ⟨rfl, inlX3, tyX3_ok, nmX3⟩
theorem kl4 : KL 4 RX4 TX4 6 tyX4 := ⟨rfl, inlX4, tyX4_ok, nmX4⟩
theorem kl5 : KL 5 RX5 TX5 4 tyX5 := ⟨rfl, inlX5, tyX5_ok, nmX5⟩
theorem kl6 : KL 6 RX6 TX6 9 tyX6 := ⟨rfl, inlX6, tyX6_ok, nmX6⟩
theorem kl7 : KL 7 RX7 TX7 45 tyX7 := ⟨rfl, inlX7, tyX7_ok, nmX7⟩
theorem ra_inj {s : State} {cA cB : ClassId} {ty : FieldType} (h1 : va_RA s cA ty) (h2 : va_RA s cB ty) : cA = cB := by
  cases ty with
  | object C =>
    obtain ⟨_, _, _, _, _, e1⟩ := h1
    obtain ⟨_, _, _, _, _, e2⟩ := h2
    exact Option.some.inj (e1.symm.trans e2)
  | _ => exact Option.some.inj (Eq.trans (Eq.symm h1) h2)
section OWN
variable {g : GE} {p : Program} {l : Launch} {e : Env} {R : Room} {s : State} {m : MethodId} {args : Array Value} {below : List Frame} {meth : Method} {c : Code} {H : Heap} {locs : List Loc} {cells slots : Nat} {Q : State → Prop}
variable {cc : ByteArray} {nL : Nat} {own nm : String} {ret : Option FieldType} {A : Nat → Prop} {ws : va_W} {pc : Nat} {ls : Array Slot} {rest : List Value} {a : Nat}
theorem r_get (X : CX g p s m meth c args cc nL own nm ret A) (h : ST g A s ws H locs) {ci N : Nat} {C : String} {T : u_T} {ty : Nat → FieldType} (kl : KL ci C T N ty) (q0 k : Nat) {fs : List Value} {index : Nat} {v : Value} (he : ws[q0]? = some (a, .inr (ci, fs))) (hk : k < N) (hlink : Cond.fieldLink own index (T k).1 (T k).2.1 (T k).2.2.1 ∈ WL) (hv : fs[k]? = some v) (hdg : decode cc pc = .ok (.getfield index, 3))
    (kk : W p l e R s m args below meth c H locs cells slots Q (F0 m (pc + 3) ls (v :: rest))) : W p l e R s m args below meth c H locs cells slots Q (F0 m pc ls (.ref a :: rest)) :=
  va_get (D := g.1) X.1 X.2.1 X.2.2.2.2.1 kl.2.1 X.2.2.2.1 X.2.2.2.2.2.1.1 h.1 q0 he kl.1 k hk (X.2.2.2.2.1 _ hlink) (fun _ h9 => h9) hv hdg kk
theorem r_put (X : CX g p s m meth c args cc nL own nm ret A) (h : ST g A s ws H locs) {ci N : Nat} {C : String} {T : u_T} {ty : Nat → FieldType} (kl : KL ci C T N ty) (q0 k : Nat) {fs : List Value} {index : Nat} {v : Value} (he : ws[q0]? = some (a, .inr (ci, fs))) (hk : k < N) (hlink : Cond.fieldLink own index (T k).1 (T k).2.1 (T k).2.2.1 ∈ WL) (hfin : (T k).2.2.2 = false) (hn : narrow (ty k) v = v) (hfit : fits (ty k) v = true) (hl : k < fs.length) (hdg : decode cc pc = .ok (.putfield index, 3))
    (kk : ∀ (H1 : Heap) (locs1 : List Loc), ST g A s (ws.set q0 (a, .inr (ci, fs.set k v))) H1 locs1 → W p l e R s m args below meth c H1 locs1 cells slots Q (F0 m (pc + 3) ls rest)) : W p l e R s m args below meth c H locs cells slots Q (F0 m pc ls (v :: .ref a :: rest)) :=
  va_put (D := g.1) X.1 X.2.1 X.2.2.2.2.1 kl.2.1 ty kl.2.2.1 kl.2.2.2 X.2.2.2.1 X.2.2.2.2.2.1.1 h.1 h.2.1 h.2.2 q0 he kl.1 k hk (X.2.2.2.2.1 _ hlink) (fun _ h9 => h9) hfin (kl.2.2.1 k hk) hn hfit hl hdg (fun H1 l1 a1 a2 a3 => kk H1 l1 ⟨a1, a2, a3⟩)
theorem r_putF (X : CX g p s m meth c args cc nL own "<init>" ret A) (h : ST g A s ws H locs) {ci N : Nat} {C : String} {T : u_T} {ty : Nat → FieldType} (kl : KL ci C T N ty) (q0 k : Nat) {fs : List Value} {index : Nat} {v : Value} (he : ws[q0]? = some (a, .inr (ci, fs))) (hk : k < N) (hlink : Cond.fieldLink own index (T k).1 (T k).2.1 (T k).2.2.1 ∈ WL) (hfin : (T k).2.2.2 = true) (hdecl : (T k).1 = own) (hn : narrow (ty k) v = v) (hfit : fits (ty k) v = true) (hl : k < fs.length) (hdg : decode cc pc = .ok (.putfield index, 3))
    (kk : ∀ (H1 : Heap) (locs1 : List Loc), ST g A s (ws.set q0 (a, .inr (ci, fs.set k v))) H1 locs1 → W p l e R s m args below meth c H1 locs1 cells slots Q (F0 m (pc + 3) ls rest)) : W p l e R s m args below meth c H locs cells slots Q (F0 m pc ls (v :: .ref a :: rest)) :=
  va_putF (D := g.1) X.1 X.2.1 X.2.2.2.2.1 kl.2.1 ty kl.2.2.1 kl.2.2.2 X.2.2.2.1 X.2.2.2.2.2.1.1 h.1 h.2.1 h.2.2 q0 he kl.1 k hk (X.2.2.2.2.1 _ hlink) (fun _ h9 => h9) hfin X.2.2.2.2.2.2.2.2.2 hdecl (kl.2.2.1 k hk) hn hfit hl hdg (fun H1 l1 a1 a2 a3 => kk H1 l1 ⟨a1, a2, a3⟩)
theorem r_new (X : CX g p s m meth c args cc nL own nm ret A) (h : ST g A s ws H locs) {ci N : Nat} {C : String} {T : u_T} {ty : Nat → FieldType} (kl : KL ci C T N ty) (k' n' : Nat) {fs : List Value} {index : Nat} (hcl : Cond.classLink own index C ∈ WL) (hinst : Cond.instantiable C N ∈ WL) (hini : Cond.initialized C ∈ WL) (hfs : ∀ j, j < N → defaultValue (ty j) = vp_V fs j) (h1 : cells + 1 ≤ k') (h2 : slots + N ≤ n') (h3 : k' ≤ R.cells) (h4 : n' ≤ R.slots) (hdg : decode cc pc = .ok (.new index, 3))
    (kk : ∀ (q : Nat) (H1 : Heap), ST g A s (ws ++ [(q, .inr (ci, fs))]) H1 locs → W p l e R s m args below meth c H1 locs k' n' Q (F0 m (pc + 3) ls (.ref q :: rest))) : W p l e R s m args below meth c H locs cells slots Q (F0 m pc ls rest) :=
  va_new (D := g.1) X.1 X.2.1 X.2.2.2.2.1 kl.2.1 ty kl.2.2.1 X.2.2.2.1 (X.2.2.2.2.1 _ hcl) (X.2.2.2.2.1 _ hinst) (X.2.2.2.2.1 _ hini) X.2.2.2.2.2.1.1 h.1 h.2.1 h.2.2 X.2.2.2.2.2.2.1 kl.1 hfs (Nat.le_trans h1 h3) (Nat.le_trans h2 h4) hdg (fun q H1 a1 a2 a3 => W.widen h1 h2 (kk q H1 ⟨a1, a2, a3⟩))
theorem r_newa (X : CX g p s m meth c args cc nL own nm ret A) (h : ST g A s ws H locs) (t0 k' n' : Nat) {atype : ArrayType} {ty : FieldType} (harr : Cond.arrayClass (newarray.typeOf atype) ∈ WL) (hty : newarray.typeOf atype = ty) (ht : (TYS g)[t0]? = some (g.2 t0, ty)) {n : Int32} {N : Nat} (hd : defaultValue ty = .int 0) (hn : ¬ n < 0) (hN : n.toNatClampNeg = N) (hb : N * componentBytes ty ≤ 536870912) (h1 : cells + 1 ≤ k') (h2 : slots + N ≤ n') (h3 : k' ≤ R.cells) (h4 : n' ≤ R.slots) (hdg : decode cc pc = .ok (.newarray atype, 2))
    (kk : ∀ (q : Nat) (H1 : Heap), ST g A s (ws ++ [(q, .inl (g.2 t0, N, .inl (fun _ => 0)))]) H1 locs → W p l e R s m args below meth c H1 locs k' n' Q (F0 m (pc + 2) ls (.ref q :: rest))) : W p l e R s m args below meth c H locs cells slots Q (F0 m pc ls (.int n :: rest)) := by
  refine va_newa (D := g.1) (a0 := (N, .inl (fun _ => 0))) X.1 X.2.1 (X.2.2.2.2.1 _ harr) hty X.2.2.2.2.2.1.1 h.1 h.2.1 h.2.2 X.2.2.2.2.2.2.1 (fun cA => ?_) hn hN hb (Nat.le_trans h1 h3) (Nat.le_trans h2 h4) hdg (fun q cA H1 a0 a1 a2 a3 => ?_)
  · rw [hd]; exact vp_cell_i ..
  · have e1 : va_RA s (g.2 t0) ty := (X.2.2.2.2.2.1.1.2 t0 _ ht).2
    have e2 : va_RA s cA ty := (a0.2 7 (cA, ty) rfl).2
    have e3 := ra_inj e2 e1
    subst e3
    exact W.widen h1 h2 (kk q H1 ⟨a1, a2, a3⟩)
theorem r_newq (X : CX g p s m meth c args cc nL own nm ret A) (h : ST g A s ws H locs) (t0 k' n' : Nat) {C : String} {index : Nat} (hcl : Cond.classLink own index C ∈ WL) (hao : va_AO C s) (ht : (TYS g)[t0]? = some (g.2 t0, .object C)) {n : Int32} {N : Nat} (hn : ¬ n < 0) (hN : n.toNatClampNeg = N) (hb : N * 4 ≤ 536870912) (h1 : cells + 1 ≤ k') (h2 : slots + N ≤ n') (h3 : k' ≤ R.cells) (h4 : n' ≤ R.slots) (hdg : decode cc pc = .ok (.anewarray index, 3))
    (kk : ∀ (q : Nat) (H1 : Heap), ST g A s (ws ++ [(q, .inl (g.2 t0, N, .inr (.inr (.inr (.inr (fun _ => none))))))]) H1 locs → W p l e R s m args below meth c H1 locs k' n' Q (F0 m (pc + 3) ls (.ref q :: rest))) : W p l e R s m args below meth c H locs cells slots Q (F0 m pc ls (.int n :: rest)) := by
  refine va_newq (D := g.1) X.1 X.2.1 X.2.2.2.1 (X.2.2.2.2.1 _ hcl) hao X.2.2.2.2.2.1.1 h.1 h.2.1 h.2.2 X.2.2.2.2.2.2.1 hn hN hb (Nat.le_trans h1 h3) (Nat.le_trans h2 h4) hdg (fun q cA H1 a0 a1 a2 a3 => ?_)
  have e1 : va_RA s (g.2 t0) (.object C) := (X.2.2.2.2.2.1.1.2 t0 _ ht).2
  have e2 : va_RA s cA (.object C) := (a0.2 7 (cA, .object C) rfl).2
  have e3 := ra_inj e2 e1
  subst e3
  exact W.widen h1 h2 (kk q H1 ⟨a1, a2, a3⟩)
theorem r_iald (X : CX g p s m meth c args cc nL own nm ret A) (h : ST g A s ws H locs) (q0 : Nat) {n : Nat} {f : Nat → Int32} (he : ws[q0]? = some (a, .inl (g.2 1, n, .inl f))) {i : Int32} {v : Int32} (hin : vp_in i n) (hv : f i.toNatClampNeg = v) (hdg : decode cc pc = .ok (.iaload, 1))
    (kk : W p l e R s m args below meth c H locs cells slots Q (F0 m (pc + 1) ls (.int v :: rest))) : W p l e R s m args below meth c H locs cells slots Q (F0 m pc ls (.int i :: .ref a :: rest)) :=
  va_iald (D := g.1) X.1 X.2.1 X.2.2.2.2.2.1.1 h.1 q0 1 he rfl hin hdg (by rw [hv]; exact kk)
theorem r_bald (X : CX g p s m meth c args cc nL own nm ret A) (h : ST g A s ws H locs) (q0 : Nat) {n : Nat} {f : Nat → Int32} (he : ws[q0]? = some (a, .inl (g.2 0, n, .inl f))) {i : Int32} {v : Int32} (hin : vp_in i n) (hv : f i.toNatClampNeg = v) (hdg : decode cc pc = .ok (.baload, 1))
    (kk : W p l e R s m args below meth c H locs cells slots Q (F0 m (pc + 1) ls (.int v :: rest))) : W p l e R s m args below meth c H locs cells slots Q (F0 m pc ls (.int i :: .ref a :: rest)) :=
  va_bald (D := g.1) X.1 X.2.1 X.2.2.2.2.2.1.1 h.1 q0 0 he rfl hin hdg (by rw [hv]; exact kk)
theorem r_zald (X : CX g p s m meth c args cc nL own nm ret A) (h : ST g A s ws H locs) (q0 : Nat) {n : Nat} {f : Nat → Int32} (he : ws[q0]? = some (a, .inl (g.2 2, n, .inl f))) {i : Int32} {v : Int32} (hin : vp_in i n) (hv : f i.toNatClampNeg = v) (hdg : decode cc pc = .ok (.baload, 1))
    (kk : W p l e R s m args below meth c H locs cells slots Q (F0 m (pc + 1) ls (.int v :: rest))) : W p l e R s m args below meth c H locs cells slots Q (F0 m pc ls (.int i :: .ref a :: rest)) :=
  va_zald (D := g.1) X.1 X.2.1 X.2.2.2.2.2.1.1 h.1 q0 2 he rfl hin hdg (by rw [hv]; exact kk)
theorem r_aald (X : CX g p s m meth c args cc nL own nm ret A) (h : ST g A s ws H locs) (q0 t0 : Nat) {C : String} (ht : (TYS g)[t0]? = some (g.2 t0, .object C)) {n : Nat} {f : Nat → Option Nat} (he : ws[q0]? = some (a, .inl (g.2 t0, n, .inr (.inr (.inr (.inr f)))))) {i : Int32} {v : Value} (hin : vp_in i n) (hv : va_rf (f i.toNatClampNeg) = v) (hdg : decode cc pc = .ok (.aaload, 1))
    (kk : W p l e R s m args below meth c H locs cells slots Q (F0 m (pc + 1) ls (v :: rest))) : W p l e R s m args below meth c H locs cells slots Q (F0 m pc ls (.int i :: .ref a :: rest)) :=
  va_aldq (D := g.1) (C := C) X.1 X.2.1 X.2.2.2.2.2.1.1 h.1 q0 t0 he ht hin hdg (by rw [hv]; exact kk)
theorem r_iast (X : CX g p s m meth c args cc nL own nm ret A) (h : ST g A s ws H locs) (q0 : Nat) {n : Nat} {f : Nat → Int32} (he : ws[q0]? = some (a, .inl (g.2 1, n, .inl f))) {i : Int32} {x : Int32} (hin : vp_in i n) (hdg : decode cc pc = .ok (.iastore, 1))
    (kk : ∀ (H1 : Heap) (locs1 : List Loc), ST g A s (ws.set q0 (a, .inl (g.2 1, n, .inl (upd f i.toNatClampNeg x)))) H1 locs1 → W p l e R s m args below meth c H1 locs1 cells slots Q (F0 m (pc + 1) ls rest)) : W p l e R s m args below meth c H locs cells slots Q (F0 m pc ls (.int x :: .int i :: .ref a :: rest)) :=
  va_iast (D := g.1) X.1 X.2.1 X.2.2.2.2.2.1.1 h.1 h.2.1 h.2.2 q0 1 he rfl hin hdg (fun H1 l1 a1 a2 a3 => kk H1 l1 ⟨a1, a2, a3⟩)
theorem r_aast (X : CX g p s m meth c args cc nL own nm ret A) (h : ST g A s ws H locs) (q0 t0 qk ci : Nat) {r : vw_C} {n v : Nat} {vs : List Value} {f : Nat → Option Nat} (he : ws[q0]? = some (a, .inl (g.2 t0, n, .inr (.inr (.inr (.inr f)))))) (ht : (TYS g)[t0]? = some (g.2 t0, .object r.1)) (hv : ws[qk]? = some (v, .inr (ci, vs))) (hc : vwCl[ci]? = some r) {i : Int32} (hin : vp_in i n) (hdg : decode cc pc = .ok (.aastore, 1))
    (kk : ∀ (H1 : Heap) (locs1 : List Loc), ST g A s (ws.set q0 (a, .inl (g.2 t0, n, .inr (.inr (.inr (.inr (va_up f i.toNatClampNeg (some v)))))))) H1 locs1 → W p l e R s m args below meth c H1 locs1 cells slots Q (F0 m (pc + 1) ls rest)) : W p l e R s m args below meth c H locs cells slots Q (F0 m pc ls (.ref v :: .int i :: .ref a :: rest)) :=
  va_astq (D := g.1) X.1 X.2.1 X.2.2.2.2.2.1.1 h.1 h.2.1 h.2.2 q0 t0 qk ci he ht hv hc hin hdg (fun H1 l1 a1 a2 a3 => kk H1 l1 ⟨a1, a2, a3⟩)
theorem r_aastN (X : CX g p s m meth c args cc nL own nm ret A) (h : ST g A s ws H locs) (q0 t0 : Nat) {C : String} {n : Nat} {f : Nat → Option Nat} (he : ws[q0]? = some (a, .inl (g.2 t0, n, .inr (.inr (.inr (.inr f)))))) (ht : (TYS g)[t0]? = some (g.2 t0, .object C)) {i : Int32} (hin : vp_in i n) (hdg : decode cc pc = .ok (.aastore, 1))
    (kk : ∀ (H1 : Heap) (locs1 : List Loc), ST g A s (ws.set q0 (a, .inl (g.2 t0, n, .inr (.inr (.inr (.inr (va_up f i.toNatClampNeg none))))))) H1 locs1 → W p l e R s m args below meth c H1 locs1 cells slots Q (F0 m (pc + 1) ls rest)) : W p l e R s m args below meth c H locs cells slots Q (F0 m pc ls (.null :: .int i :: .ref a :: rest)) :=
  va_astqN (D := g.1) X.1 X.2.1 X.2.2.2.2.2.1.1 h.1 h.2.1 h.2.2 q0 t0 he ht hin hdg (fun H1 l1 a1 a2 a3 => kk H1 l1 ⟨a1, a2, a3⟩)
theorem r_alen (X : CX g p s m meth c args cc nL own nm ret A) (h : ST g A s ws H locs) (q0 t0 : Nat) {x : vp_A} {ty : FieldType} (he : ws[q0]? = some (a, .inl (g.2 t0, x))) (ht : (TYS g)[t0]? = some (g.2 t0, ty)) {v : Int32} (hv : Int32.ofNat x.1 = v) (hdg : decode cc pc = .ok (.arraylength, 1))
    (kk : W p l e R s m args below meth c H locs cells slots Q (F0 m (pc + 1) ls (.int v :: rest))) : W p l e R s m args below meth c H locs cells slots Q (F0 m pc ls (.ref a :: rest)) :=
  va_alen (D := g.1) X.1 X.2.1 X.2.2.2.2.2.1.1 h.1 q0 t0 he ht hv hdg kk
theorem r_objInit (X : CX g p s m meth c args cc nL own nm ret A) {idx : Nat} (hlink : Cond.methodLink own idx objectInit ∈ WL) (hinst : Cond.instanceMethod objectInit ∈ WL) (hcode : Cond.code objectInit ⟨#[0xb1]⟩ 1 none ∈ WL) (hs : ls.size = nL) (hd : decode cc pc = .ok (.invokespecial idx, 3)) (hfr : 1 ≤ R.frames) (hlo : 2 * (F0 m pc ls (.ref a :: rest)).monitorRoom + (rest.map fun v => v.category).sum + 12 ≤ R.locals)
    (kk : W p l e R s m args below meth c H locs cells slots Q (F0 m (pc + 3) ls rest)) : W p l e R s m args below meth c H locs cells slots Q (F0 m pc ls (.ref a :: rest)) :=
  W.objInit X.1 X.2.1 X.2.2.2.1 (X.2.2.2.2.1 _ hlink) (X.2.2.2.2.1 _ hinst) (X.2.2.2.2.1 _ hcode) rfl (hs.trans X.2.2.1.symm) rfl hd hfr hlo kk
theorem r_ldc (X : CX g p s m meth c args cc nL own nm ret A) {index : Nat} {v : Int32} (hc : Cond.constant own index v ∈ WL) (hdg : decode cc pc = .ok (.ldc index, 2)) (kk : W p l e R s m args below meth c H locs cells slots Q (F0 m (pc + 2) ls (.int v :: rest))) : W p l e R s m args below meth c H locs cells slots Q (F0 m pc ls rest) := lv_ldc X.1 X.2.1 X.2.2.2.1 (X.2.2.2.2.1 _ hc) hdg kk
theorem r_ldcw (X : CX g p s m meth c args cc nL own nm ret A) {index : Nat} {v : Int32} (hc : Cond.constant own index v ∈ WL) (hdg : decode cc pc = .ok (.ldc_w index, 3)) (kk : W p l e R s m args below meth c H locs cells slots Q (F0 m (pc + 3) ls (.int v :: rest))) : W p l e R s m args below meth c H locs cells slots Q (F0 m pc ls rest) := lv_ldcw X.1 X.2.1 X.2.2.2.1 (X.2.2.2.2.1 _ hc) hdg kk
theorem r_ldc2 (X : CX g p s m meth c args cc nL own nm ret A) {index : Nat} {v : Int64} (hc : Cond.constantLong own index v ∈ WL) (hdg : decode cc pc = .ok (.ldc2_w index, 3)) (kk : W p l e R s m args below meth c H locs cells slots Q (F0 m (pc + 3) ls (.long v :: rest))) : W p l e R s m args below meth c H locs cells slots Q (F0 m pc ls rest) := lv_ldc2 X.1 X.2.1 X.2.2.2.1 (X.2.2.2.2.1 _ hc) hdg kk
theorem r_vi {x y : Int32} (hv : x = y) (kk : W p l e R s m args below meth c H locs cells slots Q (F0 m pc ls (.int y :: rest))) : W p l e R s m args below meth c H locs cells slots Q (F0 m pc ls (.int x :: rest)) := by rw [hv]; exact kk
theorem r_vl {x y : Int64} (hv : x = y) (kk : W p l e R s m args below meth c H locs cells slots Q (F0 m pc ls (.long y :: rest))) : W p l e R s m args below meth c H locs cells slots Q (F0 m pc ls (.long x :: rest)) := by rw [hv]; exact kk
theorem r_min (X : CX g p s m meth c args cc nL own nm ret A) {index : Nat} (hlink : Cond.methodLink own index Lib.Math.min.name ∈ WL) (hstat : Cond.static Lib.Math.min.name ∈ WL) (hini : Cond.initialized "java/lang/Math" ∈ WL) (hcode : Cond.code Lib.Math.min.name Lib.Math.min.code 2 (some .int) ∈ WL) (hs : ls.size = nL) (hfr : 1 ≤ R.frames) (hlo : (rest.map fun v => v.category).sum + 13 ≤ R.locals) (h3 : cells ≤ R.cells) (h4 : slots ≤ R.slots) {x y v : Int32} (hdg : decode cc pc = .ok (.invokestatic index, 3)) (hv : (if y < x then y else x) = v)
    (kk : W p l e R s m args below meth c H locs cells slots Q (F0 m (pc + 3) ls (.int v :: rest))) : W p l e R s m args below meth c H locs cells slots Q (F0 m pc ls (.int y :: .int x :: rest)) :=
  va_mmin X.1 X.2.1 (X.2.2.1.trans hs.symm) X.2.2.2.1 (X.2.2.2.2.1 _ hlink) (X.2.2.2.2.1 _ hstat) (X.2.2.2.2.1 _ hini) (X.2.2.2.2.1 _ hcode) hfr hlo h3 h4 hdg (by rw [hv]; exact kk)
theorem r_bast (X : CX g p s m meth c args cc nL own nm ret A) (h : ST g A s ws H locs) (q0 : Nat) {n : Nat} {f : Nat → Int32} (he : ws[q0]? = some (a, .inl (g.2 0, n, .inl f))) {i : Int32} {x : Int32} (hin : vp_in i n) (hdg : decode cc pc = .ok (.bastore, 1))
    (kk : ∀ (H1 : Heap) (locs1 : List Loc), ST g A s (ws.set q0 (a, .inl (g.2 0, n, .inl (upd f i.toNatClampNeg (vp_nar .byte x))))) H1 locs1 → W p l e R s m args below meth c H1 locs1 cells slots Q (F0 m (pc + 1) ls rest)) : W p l e R s m args below meth c H locs cells slots Q (F0 m pc ls (.int x :: .int i :: .ref a :: rest)) :=
  va_bast (D := g.1) X.1 X.2.1 X.2.2.2.2.2.1.1 h.1 h.2.1 h.2.2 q0 0 he rfl hin hdg (fun H1 l1 a1 a2 a3 => kk H1 l1 ⟨a1, a2, a3⟩)
theorem r_zast (X : CX g p s m meth c args cc nL own nm ret A) (h : ST g A s ws H locs) (q0 : Nat) {n : Nat} {f : Nat → Int32} (he : ws[q0]? = some (a, .inl (g.2 2, n, .inl f))) {i : Int32} {x : Int32} (hin : vp_in i n) (hdg : decode cc pc = .ok (.bastore, 1))
    (kk : ∀ (f1 : Nat → Int32) (H1 : Heap) (locs1 : List Loc), ST g A s (ws.set q0 (a, .inl (g.2 2, n, .inl f1))) H1 locs1 → W p l e R s m args below meth c H1 locs1 cells slots Q (F0 m (pc + 1) ls rest)) : W p l e R s m args below meth c H locs cells slots Q (F0 m pc ls (.int x :: .int i :: .ref a :: rest)) :=
  va_zast (D := g.1) X.1 X.2.1 X.2.2.2.2.2.1.1 h.1 h.2.1 h.2.2 q0 2 he rfl hin hdg (fun H1 l1 a1 a2 a3 => kk _ H1 l1 ⟨a1, a2, a3⟩)
theorem r_iastF (X : CX g p s m meth c args cc nL own nm ret A) (h : ST g A s ws H locs) (q0 : Nat) {n : Nat} {f : Nat → Int32} (he : ws[q0]? = some (a, .inl (g.2 1, n, .inl f))) {i : Int32} {x : Int32} (hin : vp_in i n) (hdg : decode cc pc = .ok (.iastore, 1))
    (kk : ∀ (f1 : Nat → Int32) (H1 : Heap) (locs1 : List Loc), ST g A s (ws.set q0 (a, .inl (g.2 1, n, .inl f1))) H1 locs1 → W p l e R s m args below meth c H1 locs1 cells slots Q (F0 m (pc + 1) ls rest)) : W p l e R s m args below meth c H locs cells slots Q (F0 m pc ls (.int x :: .int i :: .ref a :: rest)) :=
  r_iast X h q0 he hin hdg (fun H1 l1 a1 => kk _ H1 l1 a1)
theorem r_copyb (X : CX g p s m meth c args cc nL own nm ret A) (h : ST g A s ws H locs) {index : Nat} (hlink : Cond.methodLink own index arraycopyName ∈ WL) (hnat : Cond.native arraycopyName ∈ WL) (hstat : Cond.static arraycopyName ∈ WL) (hini : Cond.initialized "java/lang/System" ∈ WL) (hs : ls.size = nL) (q0 q1 : Nat) {a0 n0 n1 : Nat} {f0 f1 : Nat → Int32} (he0 : ws[q0]? = some (a0, .inl (g.2 0, n0, .inl f0))) (he1 : ws[q1]? = some (a, .inl (g.2 0, n1, .inl f1)))
    {sp dp n : Int32} (h1 : ¬ sp < 0) (h2 : ¬ dp < 0) (h3 : ¬ n < 0) (h4 : sp.toNatClampNeg + n.toNatClampNeg ≤ n0) (h5 : dp.toNatClampNeg + n.toNatClampNeg ≤ n1) (hfit : ∀ i, i < n.toNatClampNeg → fits .byte (.int (f0 (sp.toNatClampNeg + i))) = true)
    (hfr : 1 ≤ R.frames) (hlo : (rest.map fun v => v.category).sum + (nativeFrameWords "java/lang/System" "arraycopy" 5 + 11) ≤ R.locals) (hdg : decode cc pc = .ok (.invokestatic index, 3))
    (kk : ∀ (f2 : Nat → Int32) (H1 : Heap) (locs1 : List Loc), ST g A s (ws.set q1 (a, .inl (g.2 0, n1, .inl f2))) H1 locs1 → W p l e R s m args below meth c H1 locs1 cells slots Q (F0 m (pc + 3) ls rest)) : W p l e R s m args below meth c H locs cells slots Q (F0 m pc ls (.int n :: .int dp :: .ref a :: .int sp :: .ref a0 :: rest)) :=
  va_copyi (D := g.1) (ty := .byte) X.1 X.2.1 (X.2.2.1.trans hs.symm) X.2.2.2.1 (X.2.2.2.2.1 _ hlink) (X.2.2.2.2.1 _ hnat) (X.2.2.2.2.1 _ hstat) (X.2.2.2.2.1 _ hini) X.2.2.2.2.2.1.1 h.1 h.2.1 h.2.2 q0 q1 0 0 he0 he1 rfl rfl rfl h1 h2 h3 h4 h5 hfit hfr hlo hdg (fun H1 l1 a1 a2 a3 => kk _ H1 l1 ⟨a1, a2, a3⟩)
-- ends
theorem r_vret {S : Type} {wc : va_W} {sz : Nat} {w1 : S → va_W} (X : CX g p s m meth c args cc nL own nm none A) (h : ST g A s ws H locs) (hAe : A = va_A wc sz) (u : S) (is : List Nat) (hn : va_nd is = true) (hs : is.map (fun i => ws[i]?) = (w1 u).map some) (mc ms : Nat) (h1 : cells ≤ mc) (h2 : slots ≤ ms) (hdg : decode cc pc = .ok (.return_, 1)) : W p l e R s m args below meth c H locs cells slots (MQ below (QV g wc sz w1) args s mc ms (va_A wc sz)) (F0 m pc ls []) := by
  subst hAe
  have h9 := h.sub is hn hs
  exact W.widen h1 h2 (W.vret X.1 X.2.1 X.2.2.2.2.2.2.2.1 (fun t ht _ => ⟨⟨u, rfl, trivial, by rw [ht]; exact h9.1, h9.2.1⟩, h.2.2.F ht⟩) h.2.2.2.2 hdg X.2.2.2.2.2.2.2.2.1)
theorem r_iret {S : Type} {wc : va_W} {sz : Nat} {r v : Int32} {w1 : S → va_W} (X : CX g p s m meth c args cc nL own nm (some .int) A) (h : ST g A s ws H locs) (hAe : A = va_A wc sz) (u : S) (is : List Nat) (hn : va_nd is = true) (hs : is.map (fun i => ws[i]?) = (w1 u).map some) (mc ms : Nat) (h1 : cells ≤ mc) (h2 : slots ≤ ms) (hv : v = r) (hdg : decode cc pc = .ok (.ireturn, 1)) : W p l e R s m args below meth c H locs cells slots (MQ below (QI g wc sz r w1) args s mc ms (va_A wc sz)) (F0 m pc ls [.int v]) := by
  subst hAe
  have h9 := h.sub is hn hs
  exact W.widen h1 h2 (W.iret X.1 X.2.1 X.2.2.2.2.2.2.2.1 (fun t ht _ => ⟨⟨v, u, rfl, hv, by rw [ht]; exact h9.1, h9.2.1⟩, h.2.2.F ht⟩) h.2.2.2.2 hdg X.2.2.2.2.2.2.2.2.1)
theorem r_zret {S : Type} {wc : va_W} {sz : Nat} {r v : Int32} {w1 : S → va_W} (X : CX g p s m meth c args cc nL own nm (some .boolean) A) (h : ST g A s ws H locs) (hAe : A = va_A wc sz) (u : S) (is : List Nat) (hn : va_nd is = true) (hs : is.map (fun i => ws[i]?) = (w1 u).map some) (mc ms : Nat) (h1 : cells ≤ mc) (h2 : slots ≤ ms) (hv : v = r) (hnn : narrow .boolean (.int v) = .int v) (hdg : decode cc pc = .ok (.ireturn, 1)) : W p l e R s m args below meth c H locs cells slots (MQ below (QI g wc sz r w1) args s mc ms (va_A wc sz)) (F0 m pc ls [.int v]) := by
  subst hAe
  have h9 := h.sub is hn hs
  exact W.widen h1 h2 (W.zret X.1 X.2.1 X.2.2.2.2.2.2.2.1 hnn (fun t ht _ => ⟨⟨v, u, rfl, hv, by rw [ht]; exact h9.1, h9.2.1⟩, h.2.2.F ht⟩) h.2.2.2.2 hdg X.2.2.2.2.2.2.2.2.1)
theorem r_lret {S : Type} {wc : va_W} {sz : Nat} {r v : Int64} {w1 : S → va_W} (X : CX g p s m meth c args cc nL own nm (some .long) A) (h : ST g A s ws H locs) (hAe : A = va_A wc sz) (u : S) (is : List Nat) (hn : va_nd is = true) (hs : is.map (fun i => ws[i]?) = (w1 u).map some) (mc ms : Nat) (h1 : cells ≤ mc) (h2 : slots ≤ ms) (hv : v = r) (hdg : decode cc pc = .ok (.lreturn, 1)) : W p l e R s m args below meth c H locs cells slots (MQ below (QL g wc sz r w1) args s mc ms (va_A wc sz)) (F0 m pc ls [.long v]) := by
  subst hAe
  have h9 := h.sub is hn hs
  exact W.widen h1 h2 (W.lret X.1 X.2.1 X.2.2.2.2.2.2.2.1 (fun t ht _ => ⟨⟨v, u, rfl, hv, by rw [ht]; exact h9.1, h9.2.1⟩, h.2.2.F ht⟩) h.2.2.2.2 hdg X.2.2.2.2.2.2.2.2.1)
theorem r_aret {S : Type} {wc : va_W} {sz : Nat} {r : Option Nat} {v : Value} {C : String} {w1 : S → va_W} (X : CX g p s m meth c args cc nL own nm (some (.object C)) A) (h : ST g A s ws H locs) (hAe : A = va_A wc sz) (u : S) (is : List Nat) (hn : va_nd is = true) (hs : is.map (fun i => ws[i]?) = (w1 u).map some) (mc ms : Nat) (h1 : cells ≤ mc) (h2 : slots ≤ ms) (hv : v = va_rf r) (hdg : decode cc pc = .ok (.areturn, 1)) : W p l e R s m args below meth c H locs cells slots (MQ below (QQ g wc sz r w1) args s mc ms (va_A wc sz)) (F0 m pc ls [v]) := by
  subst hAe
  subst hv
  have h9 := h.sub is hn hs
  exact W.widen h1 h2 (W.aret X.1 X.2.1 X.2.2.2.2.2.2.2.1 (Or.inl ⟨C, rfl⟩) (by cases r with | none => exact Or.inl rfl | some a => exact Or.inr ⟨a, rfl⟩) (fun t ht _ => ⟨⟨r, u, rfl, rfl, by rw [ht]; exact h9.1, h9.2.1⟩, h.2.2.F ht⟩) h.2.2.2.2 hdg X.2.2.2.2.2.2.2.2.1)
end OWN
theorem WLgood : GoodIn WL WL := goodIn_sub (fun _ h => h) WL_all
theorem gCode {y : MethodName} {bytes : ByteArray} {maxL : Nat} {rt : Option FieldType} (h5 : Cond.code y bytes maxL rt ∈ WL) : GoodIn WL (.code y bytes maxL rt :: WL) := fun w hw => (List.mem_cons.mp hw).elim (fun e => by rw [e]; exact WLgood _ h5) (fun h => WLgood w h)
def CWV (own : String) (index : Nat) (C : String) (y : MethodName) (bytes : ByteArray) (maxL : Nat) (rt : Option FieldType) (n : Nat) : Prop := GoodIn WL (wsV own index C y (.code y bytes maxL rt :: WL)) ∧ (y.cls = C ∧ y.cls ≠ "java/lang/invoke/MethodHandle" ∧ y.cls ≠ "java/lang/invoke/VarHandle" ∧ (parseMethodDescriptor y.desc).map (fun d => d.parameters.length) = some n)
theorem CWV.mk {own : String} {index : Nat} {C : String} {y : MethodName} {bytes : ByteArray} {maxL : Nat} {rt : Option FieldType} {n : Nat} (h1 : Cond.methodLink own index y ∈ WL) (h2 : Cond.instanceMethod y ∈ WL) (h3 : Cond.selects C y y ∈ WL) (h4 : Cond.initialized C ∈ WL) (h5 : Cond.code y bytes maxL rt ∈ WL) (hd : y.cls = C ∧ y.cls ≠ "java/lang/invoke/MethodHandle" ∧ y.cls ≠ "java/lang/invoke/VarHandle" ∧ (parseMethodDescriptor y.desc).map (fun d => d.parameters.length) = some n) : CWV own index C y bytes maxL rt n := by
  refine ⟨?_, hd⟩
  unfold wsV
  refine goodIn_app (fun w hw => ?_) (gCode h5)
  simp only [List.mem_cons, List.not_mem_nil, or_false] at hw
  rcases hw with e | e | e | e <;> rw [e]
  · exact WLgood _ h1
  · exact WLgood _ h2
  · exact WLgood _ h3
  · exact WLgood _ h4
def CWS (own : String) (index : Nat) (y : MethodName) (bytes : ByteArray) (maxL : Nat) (rt : Option FieldType) (n : Nat) : Prop := GoodIn WL (wsS own index y (.code y bytes maxL rt :: WL)) ∧ (y.cls = own ∧ y.cls ≠ "java/lang/invoke/MethodHandle" ∧ y.cls ≠ "java/lang/invoke/VarHandle" ∧ (parseMethodDescriptor y.desc).map (fun d => d.parameters.length) = some n)
theorem CWS.mk {own : String} {index : Nat} {y : MethodName} {bytes : ByteArray} {maxL : Nat} {rt : Option FieldType} {n : Nat} (h1 : Cond.methodLink own index y ∈ WL) (h2 : Cond.static y ∈ WL) (h4 : Cond.initialized own ∈ WL) (h5 : Cond.code y bytes maxL rt ∈ WL) (hd : y.cls = own ∧ y.cls ≠ "java/lang/invoke/MethodHandle" ∧ y.cls ≠ "java/lang/invoke/VarHandle" ∧ (parseMethodDescriptor y.desc).map (fun d => d.parameters.length) = some n) : CWS own index y bytes maxL rt n := by
  refine ⟨?_, hd⟩
  unfold wsS
  intro w hw
  simp only [List.mem_cons, List.mem_append, List.not_mem_nil, or_false, List.cons_append, List.nil_append] at hw
  rcases hw with e | e | e | e | e
  · rw [e]; exact WLgood _ h1
  · rw [e]; exact WLgood _ h2
  · rw [e]; exact WLgood _ h4
  · rw [e]; exact WLgood _ h5
  · exact WLgood _ e
def CWI (own : String) (index : Nat) (y : MethodName) (bytes : ByteArray) (maxL n : Nat) : Prop := GoodIn WL (.code y bytes maxL none :: WL) ∧ Cond.initialized y.cls ∈ WL ∧ Cond.methodLink own index y ∈ WL ∧ Cond.instanceMethod y ∈ WL ∧ y.name = "<init>" ∧ (y.cls ≠ "java/lang/invoke/MethodHandle" ∧ y.cls ≠ "java/lang/invoke/VarHandle" ∧ (parseMethodDescriptor y.desc).map (fun d => d.parameters.length) = some n)
def CWN (own : String) (index : Nat) (y : MethodName) (host : String) (bytes : ByteArray) (maxL n : Nat) : Prop := GoodIn WL (.code y bytes maxL none :: WL) ∧ Cond.initialized y.cls ∈ WL ∧ Cond.instanceMethod y ∈ WL ∧ y.name = "<init>" ∧ (y.cls ≠ "java/lang/invoke/MethodHandle" ∧ y.cls ≠ "java/lang/invoke/VarHandle" ∧ (parseMethodDescriptor y.desc).map (fun d => d.parameters.length) = some n)
section CALLS
variable {g : GE} {p : Program} {l : Launch} {e : Env} {R : Room} {s : State} {m : MethodId} {args : Array Value} {below : List Frame} {meth : Method} {c : Code} {H : Heap} {locs : List Loc} {cells slots : Nat} {Q : State → Prop}
variable {cc : ByteArray} {nL : Nat} {own nm : String} {ret : Option FieldType} {A : Nat → Prop} {ws wc wr : va_W} {pc : Nat} {ls : Array Slot} {rest st0 : List Value} {b : Nat} {As : List Value}
variable {y : MethodName} {bytes : ByteArray} {maxL : Nat} {rt : Option FieldType} {rm : Room} {mc ms n index : Nat} {Qc : Array Value → State → Outcome → State → Prop} {free : Addr → Prop}
theorem k_runV (X : CX g p s m meth c args cc nL own nm ret A) (h : ST g A s ws H locs) {C : String} {T : u_T} {N ci : Nat} {ty : Nat → FieldType} {fs : List Value} (hM : Met l y (.code y bytes maxL rt :: WL) rm (PR g (.ref b :: As) wc H.size) Qc mc ms free) (cw : CWV own index C y bytes maxL rt n) (isC : List Nat) (hnC : va_nd isC = true) (hC : isC.map (fun i => ws[i]?) = wc.map some) (q0 : Nat) (kl : KL ci C T N ty) (he : ws[q0]? = some (b, .inr (ci, fs))) (hrc : rm.cells = mc) (hrs : rm.slots = ms) (hfr : rm.frames + 1 ≤ R.frames) (hlo : 8 + (maxL + 11) + rm.locals ≤ R.locals) (hn : As.length = n) (hls : ls.size = nL) (hst : st0 = As.reverse ++ .ref b :: rest) (hW : (rest.map fun v => v.category).sum ≤ 8) (hdg : decode cc pc = .ok (.invokevirtual index, 3)) (h3 : cells + mc ≤ R.cells) (h4 : slots + ms ≤ R.slots) :
    va_Run p l e R s m args below meth c H locs cells slots mc ms (F0 m pc ls st0) rest (Qc (Value.ref b :: As).toArray) free := by
  have h9 := h.sub isC hnC hC
  exact va_runV ⟨X.1, X.2.1, X.2.2.1, X.2.2.2.1, X.2.2.2.2.1⟩ hM (cwV n X.2.2.2.2.1 cw.1 rfl hrc hrs cw.2 ⟨hfr, hlo⟩) ⟨fun a U f mk q => by obtain ⟨q0, q1, qP, qE, qD⟩ := q; exact ⟨q0, q1, qP, qE.calling, qD⟩, va_recv X.2.2.2.2.2.1.1 h.1 kl.1 he, fun U hU hW => ⟨rfl, by rw [hU], by rw [hU]; exact h9.1, X.2.2.2.2.2.1.warm hW, h9.2.1.weaken (fun _ _ _ _ => trivial)⟩⟩ rfl hn hls hst (lv_room hW) hdg ⟨h3, h4⟩
theorem k_runS (X : CX g p s m meth c args cc nL own nm ret A) (h : ST g A s ws H locs) (hM : Met l y (.code y bytes maxL rt :: WL) rm (PR g As wc H.size) Qc mc ms free) (cw : CWS own index y bytes maxL rt n) (isC : List Nat) (hnC : va_nd isC = true) (hC : isC.map (fun i => ws[i]?) = wc.map some) (hrc : rm.cells = mc) (hrs : rm.slots = ms) (hfr : rm.frames + 1 ≤ R.frames) (hlo : 8 + (maxL + 11) + rm.locals ≤ R.locals) (hn : As.length = n) (hls : ls.size = nL) (hst : st0 = As.reverse ++ rest) (hW : (rest.map fun v => v.category).sum ≤ 8) (hdg : decode cc pc = .ok (.invokestatic index, 3)) (h3 : cells + mc ≤ R.cells) (h4 : slots + ms ≤ R.slots) :
    va_Run p l e R s m args below meth c H locs cells slots mc ms (F0 m pc ls st0) rest (Qc As.toArray) free := by
  have h9 := h.sub isC hnC hC
  exact va_runS ⟨X.1, X.2.1, X.2.2.1, X.2.2.2.1, X.2.2.2.2.1⟩ hM (cwS n X.2.2.2.2.1 cw.1 rfl hrc hrs cw.2 ⟨hfr, hlo⟩) ⟨fun a U f mk q => by obtain ⟨q0, q1, qP, qE, qD⟩ := q; exact ⟨q0, q1, qP, qE.calling, qD⟩, fun U hU hW => ⟨rfl, by rw [hU], by rw [hU]; exact h9.1, X.2.2.2.2.2.1.warm hW, h9.2.1.weaken (fun _ _ _ _ => trivial)⟩⟩ rfl hn hls hst (lv_room hW) hdg ⟨h3, h4⟩
theorem k_runI (X : CX g p s m meth c args cc nL own nm ret A) (h : ST g A s ws H locs) (hM : Met l y (.code y bytes maxL none :: WL) rm (PR g (.ref b :: As) wc H.size) Qc mc ms free) (cw : CWI own index y bytes maxL n) (isC : List Nat) (hnC : va_nd isC = true) (hC : isC.map (fun i => ws[i]?) = wc.map some) (hrc : rm.cells = mc) (hrs : rm.slots = ms) (hfr : rm.frames + 1 ≤ R.frames) (hlo : 8 + (maxL + 11) + rm.locals ≤ R.locals) (hn : As.length = n) (hls : ls.size = nL) (hst : st0 = As.reverse ++ .ref b :: rest) (hW : (rest.map fun v => v.category).sum ≤ 8) (hdg : decode cc pc = .ok (.invokespecial index, 3)) (h3 : cells + mc ≤ R.cells) (h4 : slots + ms ≤ R.slots) :
    va_Run p l e R s m args below meth c H locs cells slots mc ms (F0 m pc ls st0) rest (Qc (Value.ref b :: As).toArray) free := by
  have h9 := h.sub isC hnC hC
  exact va_runI ⟨X.1, X.2.1, X.2.2.1, X.2.2.2.1, X.2.2.2.2.1⟩ hM (cwI n X.2.2.2.2.1 cw.1 rfl hrc hrs (X.2.2.2.2.1 _ cw.2.1) (X.2.2.2.2.1 _ cw.2.2.1) (X.2.2.2.2.1 _ cw.2.2.2.1) cw.2.2.2.2.1 cw.2.2.2.2.2 ⟨hfr, hlo⟩) ⟨fun a U f mk q => by obtain ⟨q0, q1, qP, qE, qD⟩ := q; exact ⟨q0, q1, qP, qE.calling, qD⟩, fun U hU hW => ⟨rfl, by rw [hU], by rw [hU]; exact h9.1, X.2.2.2.2.2.1.warm hW, h9.2.1.weaken (fun _ _ _ _ => trivial)⟩⟩ rfl hn hls hst (lv_room hW) hdg ⟨h3, h4⟩
theorem k_runN (X : CX g p s m meth c args cc nL own nm ret A) (h : ST g A s ws H locs) {host : String} (hnl : va_Nw (.methodLinkNest own index y host) s) (hM : Met l y (.code y bytes maxL none :: WL) rm (PR g (.ref b :: As) wc H.size) Qc mc ms free) (cw : CWN own index y host bytes maxL n) (isC : List Nat) (hnC : va_nd isC = true) (hC : isC.map (fun i => ws[i]?) = wc.map some) (hrc : rm.cells = mc) (hrs : rm.slots = ms) (hfr : rm.frames + 1 ≤ R.frames) (hlo : 8 + (maxL + 11) + rm.locals ≤ R.locals) (hn : As.length = n) (hls : ls.size = nL) (hst : st0 = As.reverse ++ .ref b :: rest) (hW : (rest.map fun v => v.category).sum ≤ 8) (hdg : decode cc pc = .ok (.invokespecial index, 3)) (h3 : cells + mc ≤ R.cells) (h4 : slots + ms ≤ R.slots) :
    va_Run p l e R s m args below meth c H locs cells slots mc ms (F0 m pc ls st0) rest (Qc (Value.ref b :: As).toArray) free := by
  have h9 := h.sub isC hnC hC
  exact va_runIN ⟨X.1, X.2.1, X.2.2.1, X.2.2.2.1, X.2.2.2.2.1⟩ hM ⟨va_cnB n X.2.2.2.2.1 cw.1 rfl hrc hrs hnl (X.2.2.2.2.1 _ cw.2.1) cw.2.2.2.2 ⟨hfr, hlo⟩, cw.2.2.2.1, X.2.2.2.2.1 _ cw.2.2.1⟩ ⟨fun a U f mk q => by obtain ⟨q0, q1, qP, qE, qD⟩ := q; exact ⟨q0, q1, qP, qE.calling, qD⟩, fun U hU hW => ⟨rfl, by rw [hU], by rw [hU]; exact h9.1, X.2.2.2.2.2.1.warm hW, h9.2.1.weaken (fun _ _ _ _ => trivial)⟩⟩ rfl hn hls hst (lv_room hW) hdg ⟨h3, h4⟩

theorem k_v {S : Type} {w1 : S → va_W} {a0 : Array Value} (X : CX g p s m meth c args cc nL own nm ret A) (h : ST g A s ws H locs) (isC isR : List Nat) (hC : isC.map (fun i => ws[i]?) = wc.map some) (hRr : isR.map (fun i => ws[i]?) = wr.map some) (hnR : va_nd isR = true) (hdis : ∀ i ∈ isR, i ∉ isC) (k' n' : Nat) (h1 : cells + mc ≤ k') (h2 : slots + ms ≤ n') (hr : va_Run p l e R s m args below meth c H locs cells slots mc ms (F0 m pc ls st0) rest (QV g wc H.size w1 a0) (va_A wc H.size))
    (kk : ∀ (u : S) (H1 : Heap) (locs1 : List Loc), ST g A s (wr ++ w1 u) H1 locs1 → W p l e R s m args below meth c H1 locs1 k' n' Q (F0 m (pc + 3) ls (rest))) : W p l e R s m args below meth c H locs cells slots Q (F0 m pc ls st0) := by
  have hF := va_free (wc := wc) h.2.1 h.2.2 X.2.2.2.2.2.2.1 isC hC
  refine va_callv hr h.2.2 (fun q _ hq => hF q hq) hF (fun u t H1 locs1 ht hvm hw hB hz1 hk1 hS => ?_)
  obtain ⟨hP1, hD1⟩ := hB
  rw [ht] at hP1
  obtain ⟨hP, hD⟩ := va_join (wr := wr) (w1 := w1 u) h.1 h.2.1 isC isR hC hRr hnR hdis hk1 hF hP1 hD1
  exact W.widen h1 h2 (kk u H1 locs1 ⟨hP, hD, hS⟩)
theorem k_i {S : Type} {r : Int32} {w1 : S → va_W} {a0 : Array Value} (X : CX g p s m meth c args cc nL own nm ret A) (h : ST g A s ws H locs) (isC isR : List Nat) (hC : isC.map (fun i => ws[i]?) = wc.map some) (hRr : isR.map (fun i => ws[i]?) = wr.map some) (hnR : va_nd isR = true) (hdis : ∀ i ∈ isR, i ∉ isC) (k' n' : Nat) (h1 : cells + mc ≤ k') (h2 : slots + ms ≤ n') (hr : va_Run p l e R s m args below meth c H locs cells slots mc ms (F0 m pc ls st0) rest (QI g wc H.size r w1 a0) (va_A wc H.size))
    (kk : ∀ (u : S) (H1 : Heap) (locs1 : List Loc), ST g A s (wr ++ w1 u) H1 locs1 → W p l e R s m args below meth c H1 locs1 k' n' Q (F0 m (pc + 3) ls (.int r :: rest))) : W p l e R s m args below meth c H locs cells slots Q (F0 m pc ls st0) := by
  have hF := va_free (wc := wc) h.2.1 h.2.2 X.2.2.2.2.2.2.1 isC hC
  refine va_calli hr h.2.2 (fun q _ hq => hF q hq) hF (fun r9 u t H1 locs1 ht hvm hw hB hz1 hk1 hS => ?_)
  obtain ⟨hP1, hD1⟩ := hB
  rw [ht] at hP1
  obtain ⟨hP, hD⟩ := va_join (wr := wr) (w1 := w1 u) h.1 h.2.1 isC isR hC hRr hnR hdis hk1 hF hP1 hD1
  subst hw
  exact W.widen h1 h2 (kk u H1 locs1 ⟨hP, hD, hS⟩)
theorem k_l {S : Type} {r : Int64} {w1 : S → va_W} {a0 : Array Value} (X : CX g p s m meth c args cc nL own nm ret A) (h : ST g A s ws H locs) (isC isR : List Nat) (hC : isC.map (fun i => ws[i]?) = wc.map some) (hRr : isR.map (fun i => ws[i]?) = wr.map some) (hnR : va_nd isR = true) (hdis : ∀ i ∈ isR, i ∉ isC) (k' n' : Nat) (h1 : cells + mc ≤ k') (h2 : slots + ms ≤ n') (hr : va_Run p l e R s m args below meth c H locs cells slots mc ms (F0 m pc ls st0) rest (QL g wc H.size r w1 a0) (va_A wc H.size))
    (kk : ∀ (u : S) (H1 : Heap) (locs1 : List Loc), ST g A s (wr ++ w1 u) H1 locs1 → W p l e R s m args below meth c H1 locs1 k' n' Q (F0 m (pc + 3) ls (.long r :: rest))) : W p l e R s m args below meth c H locs cells slots Q (F0 m pc ls st0) := by
  have hF := va_free (wc := wc) h.2.1 h.2.2 X.2.2.2.2.2.2.1 isC hC
  refine va_calll hr h.2.2 (fun q _ hq => hF q hq) hF (fun r9 u t H1 locs1 ht hvm hw hB hz1 hk1 hS => ?_)
  obtain ⟨hP1, hD1⟩ := hB
  rw [ht] at hP1
  obtain ⟨hP, hD⟩ := va_join (wr := wr) (w1 := w1 u) h.1 h.2.1 isC isR hC hRr hnR hdis hk1 hF hP1 hD1
  subst hw
  exact W.widen h1 h2 (kk u H1 locs1 ⟨hP, hD, hS⟩)
theorem k_q {S : Type} {r : Option Nat} {w1 : S → va_W} {a0 : Array Value} (X : CX g p s m meth c args cc nL own nm ret A) (h : ST g A s ws H locs) (isC isR : List Nat) (hC : isC.map (fun i => ws[i]?) = wc.map some) (hRr : isR.map (fun i => ws[i]?) = wr.map some) (hnR : va_nd isR = true) (hdis : ∀ i ∈ isR, i ∉ isC) (k' n' : Nat) (h1 : cells + mc ≤ k') (h2 : slots + ms ≤ n') (hr : va_Run p l e R s m args below meth c H locs cells slots mc ms (F0 m pc ls st0) rest (QQ g wc H.size r w1 a0) (va_A wc H.size))
    (kk : ∀ (u : S) (H1 : Heap) (locs1 : List Loc), ST g A s (wr ++ w1 u) H1 locs1 → W p l e R s m args below meth c H1 locs1 k' n' Q (F0 m (pc + 3) ls (va_rf r :: rest))) : W p l e R s m args below meth c H locs cells slots Q (F0 m pc ls st0) := by
  have hF := va_free (wc := wc) h.2.1 h.2.2 X.2.2.2.2.2.2.1 isC hC
  refine va_callq hr h.2.2 (fun q _ hq => hF q hq) hF (fun r9 u t H1 locs1 ht hvm hw hB hz1 hk1 hS => ?_)
  obtain ⟨hP1, hD1⟩ := hB
  rw [ht] at hP1
  obtain ⟨hP, hD⟩ := va_join (wr := wr) (w1 := w1 u) h.1 h.2.1 isC isR hC hRr hnR hdis hk1 hF hP1 hD1
  subst hw
  exact W.widen h1 h2 (kk u H1 locs1 ⟨hP, hD, hS⟩)
end CALLS
theorem k_loop {g : GE} {p : Program} {l : Launch} {e : Env} {R : Room} {s : State} {m : MethodId} {args : Array Value} {below : List Frame} {meth : Method} {c : Code} {H : Heap} {locs : List Loc} {cells slots : Nat} {Q : State → Prop} {A : Nat → Prop} {pc nL : Nat} {ls : Array Slot} {f0 : Nat → Int32} (N : Nat) (J : Nat → (Nat → Int32) → va_W) (L : Nat → List (Nat × Value)) (h0 : ST g A s (J 0 f0) H locs) (hl0 : lv_has ls nL (L 0))
    (body : ∀ i, i < N → (∀ (f : Nat → Int32) (H : Heap) (locs : List Loc) (ls : Array Slot), ST g A s (J (i + 1) f) H locs → lv_has ls nL (L (i + 1)) → W p l e R s m args below meth c H locs cells slots Q (F0 m pc ls [])) → ∀ (f : Nat → Int32) (H : Heap) (locs : List Loc) (ls : Array Slot), ST g A s (J i f) H locs → lv_has ls nL (L i) → W p l e R s m args below meth c H locs cells slots Q (F0 m pc ls []))
    (exit : ∀ (f : Nat → Int32) (H : Heap) (locs : List Loc) (ls : Array Slot), ST g A s (J N f) H locs → lv_has ls nL (L N) → W p l e R s m args below meth c H locs cells slots Q (F0 m pc ls [])) : W p l e R s m args below meth c H locs cells slots Q (F0 m pc ls []) := by
  have key : ∀ (n i : Nat), i + n = N → ∀ (f : Nat → Int32) (H : Heap) (locs : List Loc) (ls : Array Slot), ST g A s (J i f) H locs → lv_has ls nL (L i) → W p l e R s m args below meth c H locs cells slots Q (F0 m pc ls []) := by
    intro n
    induction n with
    | zero => intro i hi; have e0 : i = N := by omega
              subst e0; exact exit
    | succ n ih => intro i hi; exact body i (by omega) (ih (i + 1) (by omega))
  exact key N 0 (by omega) f0 H locs ls h0 hl0
theorem k_start {l : Launch} {g : GE} {y : MethodName} {cc : ByteArray} {nL : Nat} {ret : Option FieldType} {rm : Room} {av : List Value} {ws : va_W} {sz : Nat} {Qc : Array Value → State → Outcome → State → Prop} {mc ms : Nat} (hy : plainName y.cls = true) (hln : (lg_sl av).length ≤ nL)
    (body : ∀ (p : Program) (e : Env) (s : State) (m : MethodId) (below : List Frame) (meth : Method) (c : Code) (A : Nat → Prop) (H : Heap) (locs : List Loc), A = va_A ws sz → CX g p s m meth c av.toArray cc nL y.cls y.name ret A → ST g A s ws H locs → ∀ ls : Array Slot, lv_has ls nL (lv_args 0 av) → W p l e rm s m av.toArray below meth c H locs 0 0 (MQ below Qc av.toArray s mc ms (va_A ws sz)) (F0 m 0 ls [])) :
    Met l y (.code y cc nL ret :: WL) rm (PR g av ws sz) Qc mc ms (va_A ws sz) := by
  refine Met.ofW (cc := cc) (maxL := nL) (ret := ret) hy rfl ?_
  intro p e s m args below meth c s₁ B hml hv
  obtain ⟨rfl, hsz, hP, hE, hD0⟩ := hv
  have hts := atoms_spec (ws := .code y cc nL ret :: WL) B.pre
  have hl := lv_entry av (n := nL) hln
  rw [lg_entry_eq]
  generalize (lg_sl av ++ List.replicate (nL - (lg_sl av).length) Slot.unset).toArray = ls at hl ⊢
  exact body p e s m below meth c _ _ _ rfl ⟨B.exec, B.bytes, hml, findClass_of_methodNamed B.named, fun w hw => hts w (List.mem_cons_of_mem _ hw), hE, fun q h => Or.inr (by rw [← hsz]; exact h), B.returns, B.notSynchronized, (name_of_methodNamed B.named B.method).1⟩ ⟨hP, hD0.self, va_S.rf⟩ ls hl
