/-! THE CLAIM OUT OF ONE WALK OF THE LAW'S BODY. Your part is whole_start (and what it stands on); all else here is the same for every law, but numbers. -/
def R_law : String := "SnippetStopsLaw"
def lw_P (b : Addr) (xs : List Int32) (args : Array Value) (s : State) : Prop := args = #[.ref b] ∧ s.IntsAt b xs ∧ xs.length ≤ 4 ∧ (Jvm.Cond.and given_1 narrow_1).before args s = true
def lw_Q (_ : Array Value) (s : State) (o : Outcome) (t : State) : Prop := o = .returned (some (.int 1)) ∧ Framed s o t [] 600000 7302250
def lw_Z (below : List Frame) (a : Array Value) (s : State) : State → Prop := fun t => ∃ o, t.status = .running ∧ Ended t below o ∧ lw_Q a s o t
/-- the law's own end, with 1 on the stack, nothing written that was there before, its room as the claim has it -/
theorem lw_ret {p : Program} {l : Launch} {e : Env} {s : State} {m : MethodId} {below : List Frame} {meth : Method} {c : Code} {b : Nat} (hx : p.tables.exec = Jvm.exec) (hb : c.code = code) (hr : meth.sig.returnType = ret) (hlocks : meth.locks = false) {pc : Nat} {H : Heap} {ls : Array Slot} (hdg : decode code pc = .ok (.ireturn, 1)) : W p l e room_1 s m #[Value.ref b] below meth c H [] 600000 7302250 (lw_Z below #[Value.ref b] s) (F0 m pc ls [.int 1]) := by
  intro T hT X
  obtain ⟨fs, hret, hrun, hended, hW, hframe⟩ := X.leave (v := some (.int 1)) (hlocks := hlocks) (fun h => by rw [hr] at h; cases h)
  have hmeth' : T.vm.method? m = some meth := X.method'
  refine ⟨T.setFrames fs, ?_, .returned (some (.int 1)), hrun, hended, rfl, ⟨_, rfl⟩, hW, hframe⟩
  jvm_step X.here [X.here.top, hx, hb, hdg, hmeth', hr, ret, narrow_b1]
  (try refine ⟨rfl, ?_⟩); (try refine ⟨rfl, ?_⟩)
  first | (intro acts; rw [hret _ acts rfl rfl rfl]) | rw [hret _ _ rfl rfl rfl]
  exact Steps.refl _
/-- what holds at the law's entry: the machine, the code, the tables' words (any of lw_tbl by 'hts w (by decide +kernel)'), the script of L ints xs at the cell b, what the Statement gives of the start (any of its parts by flat_of_before) -/
def lw_At (p : Program) (s : State) (m : MethodId) (meth : Method) (c : Code) (b L : Nat) (xs : Nat → Int32) : Prop :=
  p.tables.exec = Jvm.exec ∧ c.code = code ∧ meth.sig.returnType = ret ∧ c.maxLocals = 4 ∧ s.vm.findClass R_law = some m.cls ∧ (∀ w ∈ lw_tbl, w.before #[Value.ref b] s = true) ∧ va_X b L xs s s.heap ∧ b < s.heap.size ∧ meth.locks = false ∧ (Jvm.Cond.and given_1 narrow_1).before #[Value.ref b] s = true
theorem lt_le {a b c : Int32} (hab : b.toInt = a.toInt + 1) (h : a < c) : b ≤ c := by
  have h1 := Int32.lt_iff_toInt_lt.mp h
  exact Int32.le_iff_toInt_le.mpr (by omega)
theorem nlt_nle {a b c : Int32} (hab : b.toInt = a.toInt + 1) (h : ¬ a < c) : ¬ b ≤ c := fun h2 => h (by
  have h1 := Int32.le_iff_toInt_le.mp h2
  exact Int32.lt_iff_toInt_lt.mpr (by omega))
theorem le_lt {a b c : Int32} (hab : b.toInt = a.toInt + 1) (h : b ≤ c) : a < c := by
  have h1 := Int32.le_iff_toInt_le.mp h
  exact Int32.lt_iff_toInt_lt.mpr (by omega)
theorem eq_0 {c : Int32} (h1 : ¬ c < 0) (h2 : ¬ 0 < c) : c = 0 := Int32.le_antisymm (Int32.not_lt.mp h2) (Int32.not_lt.mp h1)
theorem sw_lo {c : Int32} {n : Int} (h : c < 0) : Int32.toInt c < 0 ∨ n < Int32.toInt c := Or.inl (Int32.lt_iff_toInt_lt.mp h)
theorem sw_hi {c k : Int32} {n : Int} (hk : k.toInt = n) (h : k < c) : Int32.toInt c < 0 ∨ n < Int32.toInt c := Or.inr (by rw [← hk]; exact Int32.lt_iff_toInt_lt.mp h)
theorem gt_3 {c : Int32} (h : ¬ c < 0) (h0 : ¬ c = 0) (h1 : ¬ c = 1) (h2 : ¬ c = 2) (h3 : ¬ c = 3) : 3 < c := by
  obtain ⟨j, hj, rfl⟩ := nI_of h
  have e0 : j ≠ 0 := fun e => h0 (by rw [e]; rfl)
  have e1 : j ≠ 1 := fun e => h1 (by rw [e]; rfl)
  have e2 : j ≠ 2 := fun e => h2 (by rw [e]; rfl)
  have e3 : j ≠ 3 := fun e => h3 (by rw [e]; rfl)
  exact nI_lt (a := 3) (by omega) hj
theorem gt_4 {c : Int32} (h : ¬ c < 0) (h0 : ¬ c = 0) (h1 : ¬ c = 1) (h2 : ¬ c = 2) (h3 : ¬ c = 3) (h4 : ¬ c = 4) : 4 < c := by
  obtain ⟨j, hj, rfl⟩ := nI_of h
  have e0 : j ≠ 0 := fun e => h0 (by rw [e]; rfl)
  have e1 : j ≠ 1 := fun e => h1 (by rw [e]; rfl)
  have e2 : j ≠ 2 := fun e => h2 (by rw [e]; rfl)
  have e3 : j ≠ 3 := fun e => h3 (by rw [e]; rfl)
  have e4 : j ≠ 4 := fun e => h4 (by rw [e]; rfl)
  exact nI_lt (a := 4) (by omega) hj
theorem gt_5 {c : Int32} (h : ¬ c < 0) (h0 : ¬ c = 0) (h1 : ¬ c = 1) (h2 : ¬ c = 2) (h3 : ¬ c = 3) (h4 : ¬ c = 4) (h5 : ¬ c = 5) : 5 < c := by
  obtain ⟨j, hj, rfl⟩ := nI_of h
  have e0 : j ≠ 0 := fun e => h0 (by rw [e]; rfl)
  have e1 : j ≠ 1 := fun e => h1 (by rw [e]; rfl)
  have e2 : j ≠ 2 := fun e => h2 (by rw [e]; rfl)
  have e3 : j ≠ 3 := fun e => h3 (by rw [e]; rfl)
  have e4 : j ≠ 4 := fun e => h4 (by rw [e]; rfl)
  have e5 : j ≠ 5 := fun e => h5 (by rw [e]; rfl)
  exact nI_lt (a := 5) (by omega) hj
abbrev LA (s : State) : Nat → Prop := fun q => s.heap.size ≤ q
section LAWROWS
variable {g : GE} {p : Program} {l : Launch} {e : Env} {s : State} {m : MethodId} {below : List Frame} {meth : Method} {c : Code} {H : Heap} {locs : List Loc} {cells slots : Nat} {Q : State → Prop} {R : Room} {args : Array Value}
variable {bs : Nat} {xs : Nat → Int32} {ws : va_W} {ls : Array Slot} {rest : List Value} {pc L : Nat} {cc : ByteArray} {nL : Nat} {own nm : String} {ret' : Option FieldType}
theorem r_sld (X : CX g p s m meth c args cc nL own nm ret' (LA s)) (hX : va_X bs L xs s s.heap) (hbl : bs < s.heap.size) (h : ST g (LA s) s ws H locs) {i v : Int32} (hin : vp_in i L) (hv : xs i.toNatClampNeg = v) (hdg : decode cc pc = .ok (.iaload, 1))
    (kk : W p l e R s m args below meth c H locs cells slots Q (F0 m (pc + 1) ls (.int v :: rest))) : W p l e R s m args below meth c H locs cells slots Q (F0 m pc ls (.int i :: .ref bs :: rest)) :=
  va_sld (A := LA s) X.1 X.2.1 hX hbl (Nat.not_le.mpr hbl) h.2.2 hin hdg (by rw [hv]; exact kk)
theorem r_slen (X : CX g p s m meth c args cc nL own nm ret' (LA s)) (hX : va_X bs L xs s s.heap) (hbl : bs < s.heap.size) (h : ST g (LA s) s ws H locs) {v : Int32} (hv : Int32.ofNat L = v) (hdg : decode cc pc = .ok (.arraylength, 1))
    (kk : W p l e R s m args below meth c H locs cells slots Q (F0 m (pc + 1) ls (.int v :: rest))) : W p l e R s m args below meth c H locs cells slots Q (F0 m pc ls (.ref bs :: rest)) :=
  va_slen (A := LA s) X.1 X.2.1 hX hbl (Nat.not_le.mpr hbl) h.2.2 hdg (by rw [hv]; exact kk)
theorem law_end (X : CX g p s m meth c #[Value.ref bs] cL_law 4 RL nm ret (LA s)) (h : ST g (LA s) s ws H locs) (h1 : cells ≤ 600000) (h2 : slots ≤ 7302250) : W p l e room_1 s m #[Value.ref bs] below meth c H locs cells slots (lw_Z below #[Value.ref bs] s) (F0 m 666 ls []) := by
  have hx := X.1
  have hb := X.2.1
  refine lv_iconst (v := 1) hx hb dL_law_666 (by decide) ?_
  refine va_forget (fun q hq => h.2.2.2.2 q hq) ?_
  refine W.widen (k := 600000) (n := 7302250) h1 h2 ?_
  exact lw_ret hx hb X.2.2.2.2.2.2.2.1 X.2.2.2.2.2.2.2.2.1 dL_law_667
theorem law_tail (X : CX g p s m meth c #[Value.ref bs] cL_law 4 RL nm ret (LA s)) (hX : va_X bs 4 xs s s.heap) (hbl : bs < s.heap.size) (h : ST g (LA s) s ws H locs) (hl : lv_has ls 4 [(3, .int 0), (0, .ref bs)]) (h1 : cells ≤ 600000) (h2 : slots ≤ 7302250) : W p l e room_1 s m #[Value.ref bs] below meth c H locs cells slots (lw_Z below #[Value.ref bs] s) (F0 m 660 ls []) := by
  have hx := X.1
  have hb := X.2.1
  refine lv_iinc (v := 4) (lv' := [(3, .int 4), (0, .ref bs)]) hx hb dL_law_660 hl (k := 0) rfl (by decide) (by decide) rfl (fun ls hl => ?_)
  refine lv_goto (tgt := 18) hx hb dL_law_663 (by decide) ?_
  refine lv_iload_n hx hb dL_law_18 rfl (lv_at hl 0 rfl) ?_
  refine lv_aload_n hx hb dL_law_19 rfl (lv_at hl 1 rfl) ?_
  refine r_slen X hX hbl h (v := 4) rfl dL_law_20 ?_
  refine lv_iconst (v := 4) hx hb dL_law_21 (by decide) ?_
  refine lv_isub hx hb dL_law_22 ?_
  refine r_vi (y := 0) (by decide) ?_
  refine lv_icmp_gt (tgt := 666) hx hb dL_law_23 (by decide) (fun _ => ?_) (fun c_1 => absurd (by decide) c_1)
  exact law_end X h h1 h2
theorem law_short (hL : L < 4) (X : CX g p s m meth c #[Value.ref bs] cL_law 4 RL nm ret (LA s)) (hX : va_X bs L xs s s.heap) (hbl : bs < s.heap.size) (h : ST g (LA s) s ws H locs) (hl : lv_has ls 4 [(3, .int 0), (0, .ref bs)]) (h1 : cells ≤ 600000) (h2 : slots ≤ 7302250) : W p l e room_1 s m #[Value.ref bs] below meth c H locs cells slots (lw_Z below #[Value.ref bs] s) (F0 m 18 ls []) := by
  have hx := X.1
  have hb := X.2.1
  refine lv_iload_n hx hb dL_law_18 rfl (lv_at hl 0 rfl) ?_
  refine lv_aload_n hx hb dL_law_19 rfl (lv_at hl 1 rfl) ?_
  refine r_slen X hX hbl h (v := Int32.ofNat L) rfl dL_law_20 ?_
  refine lv_iconst (v := 4) hx hb dL_law_21 (by decide) ?_
  refine lv_isub hx hb dL_law_22 ?_
  refine lv_icmp_gt (tgt := 666) hx hb dL_law_23 (by decide) (fun _ => law_end X h h1 h2) (fun c_1 => absurd ?_ c_1)
  rcases (show L = 0 ∨ L = 1 ∨ L = 2 ∨ L = 3 by omega) with rfl | rfl | rfl | rfl <;> decide
end LAWROWS
theorem arr_B {args : Array Value} {s : State} (h : (Cond.arrayClass .byte).before args s = true) : ∃ cA : ClassId, ArrOfT s cA .byte ∧ va_RA s cA .byte := by
  obtain ⟨cA, kA, comp, h1, h2, h3⟩ := Cond.arrayClass_spec h
  exact ⟨cA, fun n z => ⟨fun k h => (by cases h), kA, h2, comp, h3⟩, h1⟩
theorem arr_I {args : Array Value} {s : State} (h : (Cond.arrayClass .int).before args s = true) : ∃ cA : ClassId, ArrOfT s cA .int ∧ va_RA s cA .int := by
  obtain ⟨cA, kA, comp, h1, h2, h3⟩ := Cond.arrayClass_spec h
  exact ⟨cA, fun n z => ⟨fun k h => (by cases h), kA, h2, comp, h3⟩, h1⟩
theorem arr_Z {args : Array Value} {s : State} (h : (Cond.arrayClass .boolean).before args s = true) : ∃ cA : ClassId, ArrOfT s cA .boolean ∧ va_RA s cA .boolean := by
  obtain ⟨cA, kA, comp, h1, h2, h3⟩ := Cond.arrayClass_spec h
  exact ⟨cA, fun n z => ⟨fun k h => (by cases h), kA, h2, comp, h3⟩, h1⟩
theorem arr_O {C : String} {s : State} (h : va_AO C s) : ∃ cA : ClassId, ArrOfT s cA (.object C) ∧ va_RA s cA (.object C) := by
  obtain ⟨comp, c, k, h1, h2, h3, h4, h5⟩ := Cond.arrayOver_spec h
  exact ⟨c, fun n z => ⟨fun k h => (by cases h), k, h3, comp, h4⟩, k, comp, h3, h4, h1, h5⟩
set_option maxRecDepth 20000 in
theorem en_known {args : Array Value} {s : State} (hts : ∀ w ∈ lw_tbl, w.before args s = true) : ∃ g : GE, EN g s := by
  obtain ⟨c0, i0, k0⟩ := u_known (C := RX0) (T := TX0) (N := 10) (n := 10) hts (fun w h => WL_in w (inlX0 w h)) (hts _ (WL_in _ lk_inst0))
  obtain ⟨c1, i1, k1⟩ := u_known (C := RX1) (T := TX1) (N := 10) (n := 10) hts (fun w h => WL_in w (inlX1 w h)) (hts _ (WL_in _ lk_inst1))
  obtain ⟨c2, i2, k2⟩ := u_known (C := RX2) (T := TX2) (N := 3) (n := 3) hts (fun w h => WL_in w (inlX2 w h)) (hts _ (WL_in _ lk_inst2))
  obtain ⟨c3, i3, k3⟩ := u_known (C := RX3) (T := TX3) (N := 8) (n := 8) hts (fun w h => WL_in w (inlX3 w h)) (hts _ (WL_in _ lk_inst3))
  obtain ⟨c4, i4, k4⟩ := u_known (C := RX4) (T := TX4) (N := 6) (n := 6) hts (fun w h => WL_in w (inlX4 w h)) (hts _ (WL_in _ lk_inst4))
  obtain ⟨c5, i5, k5⟩ := u_known (C := RX5) (T := TX5) (N := 4) (n := 4) hts (fun w h => WL_in w (inlX5 w h)) (hts _ (WL_in _ lk_inst5))
  obtain ⟨c6, i6, k6⟩ := u_known (C := RX6) (T := TX6) (N := 9) (n := 9) hts (fun w h => WL_in w (inlX6 w h)) (hts _ (WL_in _ lk_inst6))
  obtain ⟨c7, i7, k7⟩ := u_known (C := RX7) (T := TX7) (N := 45) (n := 45) hts (fun w h => WL_in w (inlX7 w h)) (hts _ (WL_in _ lk_inst7))
  have o0 : va_AO RX0 s := va_AO.of (hts (.arrayOver (.object RX0)) (iT_1 _ (List.mem_of_getElem? (i := 48) rfl)))
  have o2 : va_AO RX2 s := va_AO.of (hts (.arrayOver (.object RX2)) (iT_1 _ (List.mem_of_getElem? (i := 71) rfl)))
  have o3 : va_AO RX3 s := va_AO.of (hts (.arrayOver (.object RX3)) (iT_1 _ (List.mem_of_getElem? (i := 73) rfl)))
  have o4 : va_AO RX4 s := va_AO.of (hts (.arrayOver (.object RX4)) (iT_1 _ (List.mem_of_getElem? (i := 38) rfl)))
  have n6 : va_Nw nl6 s := va_Nw.of rfl (hts nl6 (iT_1 _ (List.mem_of_getElem? (i := 41) rfl)))
  have n1 : va_Nw nl1 s := va_Nw.of rfl (hts nl1 (iT_2 _ (List.mem_of_getElem? (i := 115) rfl)))
  obtain ⟨aB, qB⟩ := arr_B (hts _ (WL_in _ lk_aB))
  obtain ⟨aI, qI⟩ := arr_I (hts _ (WL_in _ lk_aI))
  obtain ⟨aZ, qZ⟩ := arr_Z (hts _ (WL_in _ lk_aZ))
  obtain ⟨b0, p0⟩ := arr_O o0
  obtain ⟨b2, p2⟩ := arr_O o2
  obtain ⟨b3, p3⟩ := arr_O o3
  obtain ⟨b4, p4⟩ := arr_O o4
  refine ⟨((fun k => match k with | 0 => c0 | 1 => c1 | 2 => c2 | 3 => c3 | 4 => c4 | 5 => c5 | 6 => c6 | _ => c7, fun k => match k with | 0 => i0 | 1 => i1 | 2 => i2 | 3 => i3 | 4 => i4 | 5 => i5 | 6 => i6 | _ => i7), fun k => match k with | 0 => aB | 1 => aI | 2 => aZ | 3 => b0 | 4 => b2 | 5 => b3 | _ => b4), ⟨?_, ?_⟩, ⟨o0, o2, o3, o4⟩, n6, n1⟩
  · intro k q hq
    match k, hq with
    | 0, hq => cases hq; exact k0
    | 1, hq => cases hq; exact k1
    | 2, hq => cases hq; exact k2
    | 3, hq => cases hq; exact k3
    | 4, hq => cases hq; exact k4
    | 5, hq => cases hq; exact k5
    | 6, hq => cases hq; exact k6
    | 7, hq => cases hq; exact k7
    | k + 8, hq => simp [vwCl] at hq
  · intro k q hq
    match k, hq with
    | 0, hq => cases hq; exact qB
    | 1, hq => cases hq; exact qI
    | 2, hq => cases hq; exact qZ
    | 3, hq => cases hq; exact p0
    | 4, hq => cases hq; exact p2
    | 5, hq => cases hq; exact p3
    | 6, hq => cases hq; exact p4
    | k + 7, hq => simp [TYS] at hq
