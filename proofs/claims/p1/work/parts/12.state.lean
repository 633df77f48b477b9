set_option maxHeartbeats 4000000 in
set_option maxRecDepth 100000 in
/-- State.uppermost(), no session -/
theorem c4_upp0 (l : Launch) (g : GE) (sz : Nat) (dO : Nat) (dp : Nat) (dv : Nat) (ds : Nat) (dsh : Nat) (ca : Int32) : Met l yX4_uppermost (.code yX4_uppermost cX4_uppermost 1 (some (.object "SnippetStops$Session")) :: WL) { frames := 0, cells := 0, slots := 0, locals := 0 } (PR g [.ref dO] [(dO, .inr (4, [.ref dp, .int ca, .ref dv, .ref ds, .int 0, .ref dsh]))] sz) (QQ g [(dO, .inr (4, [.ref dp, .int ca, .ref dv, .ref ds, .int 0, .ref dsh]))] sz none (fun _ : Unit => [(dO, .inr (4, [.ref dp, .int ca, .ref dv, .ref ds, .int 0, .ref dsh]))])) 0 0 (va_A [(dO, .inr (4, [.ref dp, .int ca, .ref dv, .ref ds, .int 0, .ref dsh]))] sz) := by
  refine k_start (by decide) (Nat.le_of_ble_eq_true rfl) ?_
  intro pp ee s m bb mm cd A H locs hAe X h ls hl
  have X : CX g pp s m mm cd _ cX4_uppermost 1 RX4 "uppermost" (some (.object "SnippetStops$Session")) A := X
  have hx := X.1
  have hb := X.2.1
  have hl : lv_has ls 1 [(0, .ref dO)] := hl
  refine lv_aload_n hx hb dX4_uppermost_0 rfl (lv_at hl 0 rfl) ?_
  refine r_get X h kl4 0 4 rfl (by decide) lk_X4_34 rfl dX4_uppermost_1 ?_
  refine lv_iconst (v := 1) hx hb dX4_uppermost_4 (by decide) ?_
  refine lv_icmp_lt (tgt := 20) hx hb dX4_uppermost_5 (by decide) (fun c_1 => ?_) (fun c_1 => absurd (by decide) c_1)
  refine lv_null hx hb dX4_uppermost_20 ?_
  refine lv_goto (tgt := 35) hx hb dX4_uppermost_21 (by decide) ?_
  exact r_aret X h hAe () [0] rfl rfl 0 0 (Nat.le_of_ble_eq_true rfl) (Nat.le_of_ble_eq_true rfl) rfl dX4_uppermost_35

set_option maxHeartbeats 4000000 in
set_option maxRecDepth 100000 in
/-- State.uppermost(), one session -/
theorem c4_upp1 (l : Launch) (g : GE) (sz : Nat) (dO : Nat) (dp : Nat) (dv : Nat) (ds : Nat) (dsh : Nat) (ds0 : Nat) (ds1 : Nat) (ds2 : Nat) : Met l yX4_uppermost (.code yX4_uppermost cX4_uppermost 1 (some (.object "SnippetStops$Session")) :: WL) { frames := 0, cells := 0, slots := 0, locals := 0 } (PR g [.ref dO] [(dO, .inr (4, [.ref dp, .int 0, .ref dv, .ref ds, .int 1, .ref dsh])), (ds, .inl (g.2 5, 3, .inr (.inr (.inr (.inr (va_up (va_up (va_up (fun _ => none) 0 (some ds0)) 1 (some ds1)) 2 (some ds2)))))))] sz) (QQ g [(dO, .inr (4, [.ref dp, .int 0, .ref dv, .ref ds, .int 1, .ref dsh])), (ds, .inl (g.2 5, 3, .inr (.inr (.inr (.inr (va_up (va_up (va_up (fun _ => none) 0 (some ds0)) 1 (some ds1)) 2 (some ds2)))))))] sz (some ds0) (fun _ : Unit => [(dO, .inr (4, [.ref dp, .int 0, .ref dv, .ref ds, .int 1, .ref dsh])), (ds, .inl (g.2 5, 3, .inr (.inr (.inr (.inr (va_up (va_up (va_up (fun _ => none) 0 (some ds0)) 1 (some ds1)) 2 (some ds2)))))))])) 0 0 (va_A [(dO, .inr (4, [.ref dp, .int 0, .ref dv, .ref ds, .int 1, .ref dsh])), (ds, .inl (g.2 5, 3, .inr (.inr (.inr (.inr (va_up (va_up (va_up (fun _ => none) 0 (some ds0)) 1 (some ds1)) 2 (some ds2)))))))] sz) := by
  refine k_start (by decide) (Nat.le_of_ble_eq_true rfl) ?_
  intro pp ee s m bb mm cd A H locs hAe X h ls hl
  have X : CX g pp s m mm cd _ cX4_uppermost 1 RX4 "uppermost" (some (.object "SnippetStops$Session")) A := X
  have hx := X.1
  have hb := X.2.1
  have hl : lv_has ls 1 [(0, .ref dO)] := hl
  refine lv_aload_n hx hb dX4_uppermost_0 rfl (lv_at hl 0 rfl) ?_
  refine r_get X h kl4 0 4 rfl (by decide) lk_X4_34 rfl dX4_uppermost_1 ?_
  refine lv_iconst (v := 1) hx hb dX4_uppermost_4 (by decide) ?_
  refine lv_icmp_lt (tgt := 20) hx hb dX4_uppermost_5 (by decide) (fun c_1 => absurd c_1 (by decide)) (fun c_1 => ?_)
  refine lv_aload_n hx hb dX4_uppermost_8 rfl (lv_at hl 0 rfl) ?_
  refine r_get X h kl4 0 4 rfl (by decide) lk_X4_34 rfl dX4_uppermost_9 ?_
  refine lv_aload_n hx hb dX4_uppermost_12 rfl (lv_at hl 0 rfl) ?_
  refine r_get X h kl4 0 3 rfl (by decide) lk_X4_30 rfl dX4_uppermost_13 ?_
  refine r_alen X h 1 5 (v := 3) rfl rfl rfl dX4_uppermost_16 ?_
  refine lv_icmp_le (tgt := 24) hx hb dX4_uppermost_17 (by decide) (fun c_2 => ?_) (fun c_2 => absurd (by decide) c_2)
  refine lv_aload_n hx hb dX4_uppermost_24 rfl (lv_at hl 0 rfl) ?_
  refine r_get X h kl4 0 3 rfl (by decide) lk_X4_30 rfl dX4_uppermost_25 ?_
  refine lv_aload_n hx hb dX4_uppermost_28 rfl (lv_at hl 0 rfl) ?_
  refine r_get X h kl4 0 4 rfl (by decide) lk_X4_34 rfl dX4_uppermost_29 ?_
  refine lv_iconst (v := 1) hx hb dX4_uppermost_32 (by decide) ?_
  refine lv_isub hx hb dX4_uppermost_33 ?_
  refine r_vi (y := 0) (by decide) ?_
  refine r_aald X h 1 5 (v := .ref ds0) rfl rfl (vp_lit (by decide +kernel)) rfl dX4_uppermost_34 ?_
  exact r_aret X h hAe () [0, 1] rfl rfl 0 0 (Nat.le_of_ble_eq_true rfl) (Nat.le_of_ble_eq_true rfl) rfl dX4_uppermost_35

set_option maxHeartbeats 4000000 in
set_option maxRecDepth 100000 in
/-- State.copyOf, both fresh -/
theorem c4_copyOf (l : Launch) (g : GE) (sz : Nat) (dO : Nat) (nO : Nat) (dp : Nat) (dv : Nat) (ds : Nat) (dsh : Nat) (dpb : Nat) (dv0 : Nat) (dv1 : Nat) (dv2 : Nat) (dv3 : Nat) (dv0b : Nat) (dv1b : Nat) (dv2b : Nat) (dv3b : Nat) (np : Nat) (nv : Nat) (ns : Nat) (nsh : Nat) (npb : Nat) (nv0 : Nat) (nv1 : Nat) (nv2 : Nat) (nv3 : Nat) (nv0b : Nat) (nv1b : Nat) (nv2b : Nat) (nv3b : Nat) : Met l yX4_copyOf (.code yX4_copyOf cX4_copyOf 3 none :: WL) { frames := 3, cells := 0, slots := 0, locals := 58 } (PR g [.ref dO, .ref nO] [(dO, .inr (4, [.ref dp, .int 0, .ref dv, .ref ds, .int 0, .ref dsh])), (dp, .inr (2, [.int 241, .ref dpb, .int 0])), (dv, .inl (g.2 4, 4, .inr (.inr (.inr (.inr (va_up (va_up (va_up (va_up (fun _ => none) 0 (some dv0)) 1 (some dv1)) 2 (some dv2)) 3 (some dv3))))))), (dv0, .inr (2, [.int 12, .ref dv0b, .int 0])), (dv1, .inr (2, [.int 12, .ref dv1b, .int 0])), (dv2, .inr (2, [.int 12, .ref dv2b, .int 0])), (dv3, .inr (2, [.int 12, .ref dv3b, .int 0])), (nO, .inr (4, [.ref np, .int 0, .ref nv, .ref ns, .int 0, .ref nsh])), (np, .inr (2, [.int 241, .ref npb, .int 0])), (nv, .inl (g.2 4, 4, .inr (.inr (.inr (.inr (va_up (va_up (va_up (va_up (fun _ => none) 0 (some nv0)) 1 (some nv1)) 2 (some nv2)) 3 (some nv3))))))), (nv0, .inr (2, [.int 12, .ref nv0b, .int 0])), (nv1, .inr (2, [.int 12, .ref nv1b, .int 0])), (nv2, .inr (2, [.int 12, .ref nv2b, .int 0])), (nv3, .inr (2, [.int 12, .ref nv3b, .int 0]))] sz) (QV g [(dO, .inr (4, [.ref dp, .int 0, .ref dv, .ref ds, .int 0, .ref dsh])), (dp, .inr (2, [.int 241, .ref dpb, .int 0])), (dv, .inl (g.2 4, 4, .inr (.inr (.inr (.inr (va_up (va_up (va_up (va_up (fun _ => none) 0 (some dv0)) 1 (some dv1)) 2 (some dv2)) 3 (some dv3))))))), (dv0, .inr (2, [.int 12, .ref dv0b, .int 0])), (dv1, .inr (2, [.int 12, .ref dv1b, .int 0])), (dv2, .inr (2, [.int 12, .ref dv2b, .int 0])), (dv3, .inr (2, [.int 12, .ref dv3b, .int 0])), (nO, .inr (4, [.ref np, .int 0, .ref nv, .ref ns, .int 0, .ref nsh])), (np, .inr (2, [.int 241, .ref npb, .int 0])), (nv, .inl (g.2 4, 4, .inr (.inr (.inr (.inr (va_up (va_up (va_up (va_up (fun _ => none) 0 (some nv0)) 1 (some nv1)) 2 (some nv2)) 3 (some nv3))))))), (nv0, .inr (2, [.int 12, .ref nv0b, .int 0])), (nv1, .inr (2, [.int 12, .ref nv1b, .int 0])), (nv2, .inr (2, [.int 12, .ref nv2b, .int 0])), (nv3, .inr (2, [.int 12, .ref nv3b, .int 0]))] sz (fun _ : Unit => [(dO, .inr (4, [.ref dp, .int 0, .ref dv, .ref ds, .int 0, .ref dsh])), (dp, .inr (2, [.int 241, .ref dpb, .int 0])), (dv, .inl (g.2 4, 4, .inr (.inr (.inr (.inr (va_up (va_up (va_up (va_up (fun _ => none) 0 (some dv0)) 1 (some dv1)) 2 (some dv2)) 3 (some dv3))))))), (dv0, .inr (2, [.int 12, .ref dv0b, .int 0])), (dv1, .inr (2, [.int 12, .ref dv1b, .int 0])), (dv2, .inr (2, [.int 12, .ref dv2b, .int 0])), (dv3, .inr (2, [.int 12, .ref dv3b, .int 0])), (nO, .inr (4, [.ref np, .int 0, .ref nv, .ref ns, .int 0, .ref nsh])), (np, .inr (2, [.int 241, .ref npb, .int 0])), (nv, .inl (g.2 4, 4, .inr (.inr (.inr (.inr (va_up (va_up (va_up (va_up (fun _ => none) 0 (some nv0)) 1 (some nv1)) 2 (some nv2)) 3 (some nv3))))))), (nv0, .inr (2, [.int 12, .ref nv0b, .int 0])), (nv1, .inr (2, [.int 12, .ref nv1b, .int 0])), (nv2, .inr (2, [.int 12, .ref nv2b, .int 0])), (nv3, .inr (2, [.int 12, .ref nv3b, .int 0]))])) 0 0 (va_A [(dO, .inr (4, [.ref dp, .int 0, .ref dv, .ref ds, .int 0, .ref dsh])), (dp, .inr (2, [.int 241, .ref dpb, .int 0])), (dv, .inl (g.2 4, 4, .inr (.inr (.inr (.inr (va_up (va_up (va_up (va_up (fun _ => none) 0 (some dv0)) 1 (some dv1)) 2 (some dv2)) 3 (some dv3))))))), (dv0, .inr (2, [.int 12, .ref dv0b, .int 0])), (dv1, .inr (2, [.int 12, .ref dv1b, .int 0])), (dv2, .inr (2, [.int 12, .ref dv2b, .int 0])), (dv3, .inr (2, [.int 12, .ref dv3b, .int 0])), (nO, .inr (4, [.ref np, .int 0, .ref nv, .ref ns, .int 0, .ref nsh])), (np, .inr (2, [.int 241, .ref npb, .int 0])), (nv, .inl (g.2 4, 4, .inr (.inr (.inr (.inr (va_up (va_up (va_up (va_up (fun _ => none) 0 (some nv0)) 1 (some nv1)) 2 (some nv2)) 3 (some nv3))))))), (nv0, .inr (2, [.int 12, .ref nv0b, .int 0])), (nv1, .inr (2, [.int 12, .ref nv1b, .int 0])), (nv2, .inr (2, [.int 12, .ref nv2b, .int 0])), (nv3, .inr (2, [.int 12, .ref nv3b, .int 0]))] sz) := by
  refine k_start (by decide) (Nat.le_of_ble_eq_true rfl) ?_
  intro pp ee s m bb mm cd A H locs hAe X h ls hl
  have X : CX g pp s m mm cd _ cX4_copyOf 3 RX4 "copyOf" none A := X
  have hx := X.1
  have hb := X.2.1
  have hl : lv_has ls 3 [(0, .ref dO), (1, .ref nO)] := hl
  refine lv_aload_n hx hb dX4_copyOf_0 rfl (lv_at hl 0 rfl) ?_
  refine r_get X h kl4 0 0 rfl (by decide) lk_X4_14 rfl dX4_copyOf_1 ?_
  refine lv_aload_n hx hb dX4_copyOf_4 rfl (lv_at hl 1 rfl) ?_
  refine r_get X h kl4 7 0 rfl (by decide) lk_X4_14 rfl dX4_copyOf_5 ?_
  refine k_v X h [1, 8] [0, 2, 3, 4, 5, 6, 7, 9, 10, 11, 12, 13] (wr := [(dO, .inr (4, [.ref dp, .int 0, .ref dv, .ref ds, .int 0, .ref dsh])), (dv, .inl (g.2 4, 4, .inr (.inr (.inr (.inr (va_up (va_up (va_up (va_up (fun _ => none) 0 (some dv0)) 1 (some dv1)) 2 (some dv2)) 3 (some dv3))))))), (dv0, .inr (2, [.int 12, .ref dv0b, .int 0])), (dv1, .inr (2, [.int 12, .ref dv1b, .int 0])), (dv2, .inr (2, [.int 12, .ref dv2b, .int 0])), (dv3, .inr (2, [.int 12, .ref dv3b, .int 0])), (nO, .inr (4, [.ref np, .int 0, .ref nv, .ref ns, .int 0, .ref nsh])), (nv, .inl (g.2 4, 4, .inr (.inr (.inr (.inr (va_up (va_up (va_up (va_up (fun _ => none) 0 (some nv0)) 1 (some nv1)) 2 (some nv2)) 3 (some nv3))))))), (nv0, .inr (2, [.int 12, .ref nv0b, .int 0])), (nv1, .inr (2, [.int 12, .ref nv1b, .int 0])), (nv2, .inr (2, [.int 12, .ref nv2b, .int 0])), (nv3, .inr (2, [.int 12, .ref nv3b, .int 0]))]) rfl rfl rfl (by decide) 0 0 (Nat.le_of_ble_eq_true rfl) (Nat.le_of_ble_eq_true rfl) (k_runV X h (As := [.ref np]) (rest := []) (c2_copyOf_241 l g H.size dp dpb 0 np 241 npb) cw_X4_43 [1, 8] rfl rfl 1 kl2 rfl rfl rfl (Nat.le_of_ble_eq_true rfl) (Nat.le_of_ble_eq_true rfl) rfl hl.1 rfl (Nat.le_of_ble_eq_true rfl) dX4_copyOf_8 (Nat.le_of_ble_eq_true rfl) (Nat.le_of_ble_eq_true rfl)) (fun _ H locs h => ?_)
  have h : ST g A s [(dO, .inr (4, [.ref dp, .int 0, .ref dv, .ref ds, .int 0, .ref dsh])), (dv, .inl (g.2 4, 4, .inr (.inr (.inr (.inr (va_up (va_up (va_up (va_up (fun _ => none) 0 (some dv0)) 1 (some dv1)) 2 (some dv2)) 3 (some dv3))))))), (dv0, .inr (2, [.int 12, .ref dv0b, .int 0])), (dv1, .inr (2, [.int 12, .ref dv1b, .int 0])), (dv2, .inr (2, [.int 12, .ref dv2b, .int 0])), (dv3, .inr (2, [.int 12, .ref dv3b, .int 0])), (nO, .inr (4, [.ref np, .int 0, .ref nv, .ref ns, .int 0, .ref nsh])), (nv, .inl (g.2 4, 4, .inr (.inr (.inr (.inr (va_up (va_up (va_up (va_up (fun _ => none) 0 (some nv0)) 1 (some nv1)) 2 (some nv2)) 3 (some nv3))))))), (nv0, .inr (2, [.int 12, .ref nv0b, .int 0])), (nv1, .inr (2, [.int 12, .ref nv1b, .int 0])), (nv2, .inr (2, [.int 12, .ref nv2b, .int 0])), (nv3, .inr (2, [.int 12, .ref nv3b, .int 0])), (dp, .inr (2, [.int 241, .ref dpb, .int 0])), (np, .inr (2, [.int 241, .ref npb, .int 0]))] H locs := h
  refine lv_aload_n hx hb dX4_copyOf_11 rfl (lv_at hl 0 rfl) ?_
  refine lv_aload_n hx hb dX4_copyOf_12 rfl (lv_at hl 1 rfl) ?_
  refine r_get X h kl4 6 1 rfl (by decide) lk_X4_20 rfl dX4_copyOf_13 ?_
  refine r_put X h kl4 0 1 (v := .int 0) rfl (by decide) lk_X4_20 rfl rfl rfl (Nat.le_of_ble_eq_true rfl) dX4_copyOf_16 (fun H locs h => ?_)
  have h : ST g A s [(dO, .inr (4, [.ref dp, .int 0, .ref dv, .ref ds, .int 0, .ref dsh])), (dv, .inl (g.2 4, 4, .inr (.inr (.inr (.inr (va_up (va_up (va_up (va_up (fun _ => none) 0 (some dv0)) 1 (some dv1)) 2 (some dv2)) 3 (some dv3))))))), (dv0, .inr (2, [.int 12, .ref dv0b, .int 0])), (dv1, .inr (2, [.int 12, .ref dv1b, .int 0])), (dv2, .inr (2, [.int 12, .ref dv2b, .int 0])), (dv3, .inr (2, [.int 12, .ref dv3b, .int 0])), (nO, .inr (4, [.ref np, .int 0, .ref nv, .ref ns, .int 0, .ref nsh])), (nv, .inl (g.2 4, 4, .inr (.inr (.inr (.inr (va_up (va_up (va_up (va_up (fun _ => none) 0 (some nv0)) 1 (some nv1)) 2 (some nv2)) 3 (some nv3))))))), (nv0, .inr (2, [.int 12, .ref nv0b, .int 0])), (nv1, .inr (2, [.int 12, .ref nv1b, .int 0])), (nv2, .inr (2, [.int 12, .ref nv2b, .int 0])), (nv3, .inr (2, [.int 12, .ref nv3b, .int 0])), (dp, .inr (2, [.int 241, .ref dpb, .int 0])), (np, .inr (2, [.int 241, .ref npb, .int 0]))] H locs := h
  refine lv_iconst (v := 0) hx hb dX4_copyOf_19 (by decide) ?_
  refine lv_istore_n (lv' := [(2, .int 0), (0, .ref dO), (1, .ref nO)]) hx hb dX4_copyOf_20 rfl hl (by decide) rfl (fun ls hl => ?_)
  refine lv_iload_n hx hb dX4_copyOf_21 rfl (lv_at hl 0 rfl) ?_
  refine lv_iconst (v := 4) hx hb dX4_copyOf_22 (by decide) ?_
  refine lv_icmp_ge (tgt := 47) hx hb dX4_copyOf_23 (by decide) (fun c_1 => absurd c_1 (by decide)) (fun c_1 => ?_)
  refine lv_aload_n hx hb dX4_copyOf_26 rfl (lv_at hl 1 rfl) ?_
  refine r_get X h kl4 0 2 rfl (by decide) lk_X4_24 rfl dX4_copyOf_27 ?_
  refine lv_iload_n hx hb dX4_copyOf_30 rfl (lv_at hl 0 rfl) ?_
  refine r_aald X h 1 4 (v := .ref dv0) rfl rfl (vp_lit (by decide +kernel)) rfl dX4_copyOf_31 ?_
  refine lv_aload_n hx hb dX4_copyOf_32 rfl (lv_at hl 2 rfl) ?_
  refine r_get X h kl4 6 2 rfl (by decide) lk_X4_24 rfl dX4_copyOf_33 ?_
  refine lv_iload_n hx hb dX4_copyOf_36 rfl (lv_at hl 0 rfl) ?_
  refine r_aald X h 7 4 (v := .ref nv0) rfl rfl (vp_lit (by decide +kernel)) rfl dX4_copyOf_37 ?_
  refine k_v X h [2, 8] [0, 1, 3, 4, 5, 6, 7, 9, 10, 11, 12, 13] (wr := [(dO, .inr (4, [.ref dp, .int 0, .ref dv, .ref ds, .int 0, .ref dsh])), (dv, .inl (g.2 4, 4, .inr (.inr (.inr (.inr (va_up (va_up (va_up (va_up (fun _ => none) 0 (some dv0)) 1 (some dv1)) 2 (some dv2)) 3 (some dv3))))))), (dv1, .inr (2, [.int 12, .ref dv1b, .int 0])), (dv2, .inr (2, [.int 12, .ref dv2b, .int 0])), (dv3, .inr (2, [.int 12, .ref dv3b, .int 0])), (nO, .inr (4, [.ref np, .int 0, .ref nv, .ref ns, .int 0, .ref nsh])), (nv, .inl (g.2 4, 4, .inr (.inr (.inr (.inr (va_up (va_up (va_up (va_up (fun _ => none) 0 (some nv0)) 1 (some nv1)) 2 (some nv2)) 3 (some nv3))))))), (nv1, .inr (2, [.int 12, .ref nv1b, .int 0])), (nv2, .inr (2, [.int 12, .ref nv2b, .int 0])), (nv3, .inr (2, [.int 12, .ref nv3b, .int 0])), (dp, .inr (2, [.int 241, .ref dpb, .int 0])), (np, .inr (2, [.int 241, .ref npb, .int 0]))]) rfl rfl rfl (by decide) 0 0 (Nat.le_of_ble_eq_true rfl) (Nat.le_of_ble_eq_true rfl) (k_runV X h (As := [.ref nv0]) (rest := []) (c2_copyOf_12 l g H.size dv0 dv0b 0 nv0 12 nv0b) cw_X4_43 [2, 8] rfl rfl 2 kl2 rfl rfl rfl (Nat.le_of_ble_eq_true rfl) (Nat.le_of_ble_eq_true rfl) rfl hl.1 rfl (Nat.le_of_ble_eq_true rfl) dX4_copyOf_38 (Nat.le_of_ble_eq_true rfl) (Nat.le_of_ble_eq_true rfl)) (fun _ H locs h => ?_)
  have h : ST g A s [(dO, .inr (4, [.ref dp, .int 0, .ref dv, .ref ds, .int 0, .ref dsh])), (dv, .inl (g.2 4, 4, .inr (.inr (.inr (.inr (va_up (va_up (va_up (va_up (fun _ => none) 0 (some dv0)) 1 (some dv1)) 2 (some dv2)) 3 (some dv3))))))), (dv1, .inr (2, [.int 12, .ref dv1b, .int 0])), (dv2, .inr (2, [.int 12, .ref dv2b, .int 0])), (dv3, .inr (2, [.int 12, .ref dv3b, .int 0])), (nO, .inr (4, [.ref np, .int 0, .ref nv, .ref ns, .int 0, .ref nsh])), (nv, .inl (g.2 4, 4, .inr (.inr (.inr (.inr (va_up (va_up (va_up (va_up (fun _ => none) 0 (some nv0)) 1 (some nv1)) 2 (some nv2)) 3 (some nv3))))))), (nv1, .inr (2, [.int 12, .ref nv1b, .int 0])), (nv2, .inr (2, [.int 12, .ref nv2b, .int 0])), (nv3, .inr (2, [.int 12, .ref nv3b, .int 0])), (dp, .inr (2, [.int 241, .ref dpb, .int 0])), (np, .inr (2, [.int 241, .ref npb, .int 0])), (dv0, .inr (2, [.int 12, .ref dv0b, .int 0])), (nv0, .inr (2, [.int 12, .ref nv0b, .int 0]))] H locs := h
  refine lv_iinc (v := 1) (lv' := [(2, .int 1), (0, .ref dO), (1, .ref nO)]) hx hb dX4_copyOf_41 hl (k := 0) rfl (by decide) (by decide) rfl (fun ls hl => ?_)
  refine lv_goto (tgt := 21) hx hb dX4_copyOf_44 (by decide) ?_
  refine lv_iload_n hx hb dX4_copyOf_21 rfl (lv_at hl 0 rfl) ?_
  refine lv_iconst (v := 4) hx hb dX4_copyOf_22 (by decide) ?_
  refine lv_icmp_ge (tgt := 47) hx hb dX4_copyOf_23 (by decide) (fun c_2 => absurd c_2 (by decide)) (fun c_2 => ?_)
  refine lv_aload_n hx hb dX4_copyOf_26 rfl (lv_at hl 1 rfl) ?_
  refine r_get X h kl4 0 2 rfl (by decide) lk_X4_24 rfl dX4_copyOf_27 ?_
  refine lv_iload_n hx hb dX4_copyOf_30 rfl (lv_at hl 0 rfl) ?_
  refine r_aald X h 1 4 (v := .ref dv1) rfl rfl (vp_lit (by decide +kernel)) rfl dX4_copyOf_31 ?_
  refine lv_aload_n hx hb dX4_copyOf_32 rfl (lv_at hl 2 rfl) ?_
  refine r_get X h kl4 5 2 rfl (by decide) lk_X4_24 rfl dX4_copyOf_33 ?_
  refine lv_iload_n hx hb dX4_copyOf_36 rfl (lv_at hl 0 rfl) ?_
  refine r_aald X h 6 4 (v := .ref nv1) rfl rfl (vp_lit (by decide +kernel)) rfl dX4_copyOf_37 ?_
  refine k_v X h [2, 7] [0, 1, 3, 4, 5, 6, 8, 9, 10, 11, 12, 13] (wr := [(dO, .inr (4, [.ref dp, .int 0, .ref dv, .ref ds, .int 0, .ref dsh])), (dv, .inl (g.2 4, 4, .inr (.inr (.inr (.inr (va_up (va_up (va_up (va_up (fun _ => none) 0 (some dv0)) 1 (some dv1)) 2 (some dv2)) 3 (some dv3))))))), (dv2, .inr (2, [.int 12, .ref dv2b, .int 0])), (dv3, .inr (2, [.int 12, .ref dv3b, .int 0])), (nO, .inr (4, [.ref np, .int 0, .ref nv, .ref ns, .int 0, .ref nsh])), (nv, .inl (g.2 4, 4, .inr (.inr (.inr (.inr (va_up (va_up (va_up (va_up (fun _ => none) 0 (some nv0)) 1 (some nv1)) 2 (some nv2)) 3 (some nv3))))))), (nv2, .inr (2, [.int 12, .ref nv2b, .int 0])), (nv3, .inr (2, [.int 12, .ref nv3b, .int 0])), (dp, .inr (2, [.int 241, .ref dpb, .int 0])), (np, .inr (2, [.int 241, .ref npb, .int 0])), (dv0, .inr (2, [.int 12, .ref dv0b, .int 0])), (nv0, .inr (2, [.int 12, .ref nv0b, .int 0]))]) rfl rfl rfl (by decide) 0 0 (Nat.le_of_ble_eq_true rfl) (Nat.le_of_ble_eq_true rfl) (k_runV X h (As := [.ref nv1]) (rest := []) (c2_copyOf_12 l g H.size dv1 dv1b 0 nv1 12 nv1b) cw_X4_43 [2, 7] rfl rfl 2 kl2 rfl rfl rfl (Nat.le_of_ble_eq_true rfl) (Nat.le_of_ble_eq_true rfl) rfl hl.1 rfl (Nat.le_of_ble_eq_true rfl) dX4_copyOf_38 (Nat.le_of_ble_eq_true rfl) (Nat.le_of_ble_eq_true rfl)) (fun _ H locs h => ?_)
  have h : ST g A s [(dO, .inr (4, [.ref dp, .int 0, .ref dv, .ref ds, .int 0, .ref dsh])), (dv, .inl (g.2 4, 4, .inr (.inr (.inr (.inr (va_up (va_up (va_up (va_up (fun _ => none) 0 (some dv0)) 1 (some dv1)) 2 (some dv2)) 3 (some dv3))))))), (dv2, .inr (2, [.int 12, .ref dv2b, .int 0])), (dv3, .inr (2, [.int 12, .ref dv3b, .int 0])), (nO, .inr (4, [.ref np, .int 0, .ref nv, .ref ns, .int 0, .ref nsh])), (nv, .inl (g.2 4, 4, .inr (.inr (.inr (.inr (va_up (va_up (va_up (va_up (fun _ => none) 0 (some nv0)) 1 (some nv1)) 2 (some nv2)) 3 (some nv3))))))), (nv2, .inr (2, [.int 12, .ref nv2b, .int 0])), (nv3, .inr (2, [.int 12, .ref nv3b, .int 0])), (dp, .inr (2, [.int 241, .ref dpb, .int 0])), (np, .inr (2, [.int 241, .ref npb, .int 0])), (dv0, .inr (2, [.int 12, .ref dv0b, .int 0])), (nv0, .inr (2, [.int 12, .ref nv0b, .int 0])), (dv1, .inr (2, [.int 12, .ref dv1b, .int 0])), (nv1, .inr (2, [.int 12, .ref nv1b, .int 0]))] H locs := h
  refine lv_iinc (v := 2) (lv' := [(2, .int 2), (0, .ref dO), (1, .ref nO)]) hx hb dX4_copyOf_41 hl (k := 0) rfl (by decide) (by decide) rfl (fun ls hl => ?_)
  refine lv_goto (tgt := 21) hx hb dX4_copyOf_44 (by decide) ?_
  refine lv_iload_n hx hb dX4_copyOf_21 rfl (lv_at hl 0 rfl) ?_
  refine lv_iconst (v := 4) hx hb dX4_copyOf_22 (by decide) ?_
  refine lv_icmp_ge (tgt := 47) hx hb dX4_copyOf_23 (by decide) (fun c_3 => absurd c_3 (by decide)) (fun c_3 => ?_)
  refine lv_aload_n hx hb dX4_copyOf_26 rfl (lv_at hl 1 rfl) ?_
  refine r_get X h kl4 0 2 rfl (by decide) lk_X4_24 rfl dX4_copyOf_27 ?_
  refine lv_iload_n hx hb dX4_copyOf_30 rfl (lv_at hl 0 rfl) ?_
  refine r_aald X h 1 4 (v := .ref dv2) rfl rfl (vp_lit (by decide +kernel)) rfl dX4_copyOf_31 ?_
  refine lv_aload_n hx hb dX4_copyOf_32 rfl (lv_at hl 2 rfl) ?_
  refine r_get X h kl4 4 2 rfl (by decide) lk_X4_24 rfl dX4_copyOf_33 ?_
  refine lv_iload_n hx hb dX4_copyOf_36 rfl (lv_at hl 0 rfl) ?_
  refine r_aald X h 5 4 (v := .ref nv2) rfl rfl (vp_lit (by decide +kernel)) rfl dX4_copyOf_37 ?_
  refine k_v X h [2, 6] [0, 1, 3, 4, 5, 7, 8, 9, 10, 11, 12, 13] (wr := [(dO, .inr (4, [.ref dp, .int 0, .ref dv, .ref ds, .int 0, .ref dsh])), (dv, .inl (g.2 4, 4, .inr (.inr (.inr (.inr (va_up (va_up (va_up (va_up (fun _ => none) 0 (some dv0)) 1 (some dv1)) 2 (some dv2)) 3 (some dv3))))))), (dv3, .inr (2, [.int 12, .ref dv3b, .int 0])), (nO, .inr (4, [.ref np, .int 0, .ref nv, .ref ns, .int 0, .ref nsh])), (nv, .inl (g.2 4, 4, .inr (.inr (.inr (.inr (va_up (va_up (va_up (va_up (fun _ => none) 0 (some nv0)) 1 (some nv1)) 2 (some nv2)) 3 (some nv3))))))), (nv3, .inr (2, [.int 12, .ref nv3b, .int 0])), (dp, .inr (2, [.int 241, .ref dpb, .int 0])), (np, .inr (2, [.int 241, .ref npb, .int 0])), (dv0, .inr (2, [.int 12, .ref dv0b, .int 0])), (nv0, .inr (2, [.int 12, .ref nv0b, .int 0])), (dv1, .inr (2, [.int 12, .ref dv1b, .int 0])), (nv1, .inr (2, [.int 12, .ref nv1b, .int 0]))]) rfl rfl rfl (by decide) 0 0 (Nat.le_of_ble_eq_true rfl) (Nat.le_of_ble_eq_true rfl) (k_runV X h (As := [.ref nv2]) (rest := []) (c2_copyOf_12 l g H.size dv2 dv2b 0 nv2 12 nv2b) cw_X4_43 [2, 6] rfl rfl 2 kl2 rfl rfl rfl (Nat.le_of_ble_eq_true rfl) (Nat.le_of_ble_eq_true rfl) rfl hl.1 rfl (Nat.le_of_ble_eq_true rfl) dX4_copyOf_38 (Nat.le_of_ble_eq_true rfl) (Nat.le_of_ble_eq_true rfl)) (fun _ H locs h => ?_)
  have h : ST g A s [(dO, .inr (4, [.ref dp, .int 0, .ref dv, .ref ds, .int 0, .ref dsh])), (dv, .inl (g.2 4, 4, .inr (.inr (.inr (.inr (va_up (va_up (va_up (va_up (fun _ => none) 0 (some dv0)) 1 (some dv1)) 2 (some dv2)) 3 (some dv3))))))), (dv3, .inr (2, [.int 12, .ref dv3b, .int 0])), (nO, .inr (4, [.ref np, .int 0, .ref nv, .ref ns, .int 0, .ref nsh])), (nv, .inl (g.2 4, 4, .inr (.inr (.inr (.inr (va_up (va_up (va_up (va_up (fun _ => none) 0 (some nv0)) 1 (some nv1)) 2 (some nv2)) 3 (some nv3))))))), (nv3, .inr (2, [.int 12, .ref nv3b, .int 0])), (dp, .inr (2, [.int 241, .ref dpb, .int 0])), (np, .inr (2, [.int 241, .ref npb, .int 0])), (dv0, .inr (2, [.int 12, .ref dv0b, .int 0])), (nv0, .inr (2, [.int 12, .ref nv0b, .int 0])), (dv1, .inr (2, [.int 12, .ref dv1b, .int 0])), (nv1, .inr (2, [.int 12, .ref nv1b, .int 0])), (dv2, .inr (2, [.int 12, .ref dv2b, .int 0])), (nv2, .inr (2, [.int 12, .ref nv2b, .int 0]))] H locs := h
  refine lv_iinc (v := 3) (lv' := [(2, .int 3), (0, .ref dO), (1, .ref nO)]) hx hb dX4_copyOf_41 hl (k := 0) rfl (by decide) (by decide) rfl (fun ls hl => ?_)
  refine lv_goto (tgt := 21) hx hb dX4_copyOf_44 (by decide) ?_
  refine lv_iload_n hx hb dX4_copyOf_21 rfl (lv_at hl 0 rfl) ?_
  refine lv_iconst (v := 4) hx hb dX4_copyOf_22 (by decide) ?_
  refine lv_icmp_ge (tgt := 47) hx hb dX4_copyOf_23 (by decide) (fun c_4 => absurd c_4 (by decide)) (fun c_4 => ?_)
  refine lv_aload_n hx hb dX4_copyOf_26 rfl (lv_at hl 1 rfl) ?_
  refine r_get X h kl4 0 2 rfl (by decide) lk_X4_24 rfl dX4_copyOf_27 ?_
  refine lv_iload_n hx hb dX4_copyOf_30 rfl (lv_at hl 0 rfl) ?_
  refine r_aald X h 1 4 (v := .ref dv3) rfl rfl (vp_lit (by decide +kernel)) rfl dX4_copyOf_31 ?_
  refine lv_aload_n hx hb dX4_copyOf_32 rfl (lv_at hl 2 rfl) ?_
  refine r_get X h kl4 3 2 rfl (by decide) lk_X4_24 rfl dX4_copyOf_33 ?_
  refine lv_iload_n hx hb dX4_copyOf_36 rfl (lv_at hl 0 rfl) ?_
  refine r_aald X h 4 4 (v := .ref nv3) rfl rfl (vp_lit (by decide +kernel)) rfl dX4_copyOf_37 ?_
  refine k_v X h [2, 5] [0, 1, 3, 4, 6, 7, 8, 9, 10, 11, 12, 13] (wr := [(dO, .inr (4, [.ref dp, .int 0, .ref dv, .ref ds, .int 0, .ref dsh])), (dv, .inl (g.2 4, 4, .inr (.inr (.inr (.inr (va_up (va_up (va_up (va_up (fun _ => none) 0 (some dv0)) 1 (some dv1)) 2 (some dv2)) 3 (some dv3))))))), (nO, .inr (4, [.ref np, .int 0, .ref nv, .ref ns, .int 0, .ref nsh])), (nv, .inl (g.2 4, 4, .inr (.inr (.inr (.inr (va_up (va_up (va_up (va_up (fun _ => none) 0 (some nv0)) 1 (some nv1)) 2 (some nv2)) 3 (some nv3))))))), (dp, .inr (2, [.int 241, .ref dpb, .int 0])), (np, .inr (2, [.int 241, .ref npb, .int 0])), (dv0, .inr (2, [.int 12, .ref dv0b, .int 0])), (nv0, .inr (2, [.int 12, .ref nv0b, .int 0])), (dv1, .inr (2, [.int 12, .ref dv1b, .int 0])), (nv1, .inr (2, [.int 12, .ref nv1b, .int 0])), (dv2, .inr (2, [.int 12, .ref dv2b, .int 0])), (nv2, .inr (2, [.int 12, .ref nv2b, .int 0]))]) rfl rfl rfl (by decide) 0 0 (Nat.le_of_ble_eq_true rfl) (Nat.le_of_ble_eq_true rfl) (k_runV X h (As := [.ref nv3]) (rest := []) (c2_copyOf_12 l g H.size dv3 dv3b 0 nv3 12 nv3b) cw_X4_43 [2, 5] rfl rfl 2 kl2 rfl rfl rfl (Nat.le_of_ble_eq_true rfl) (Nat.le_of_ble_eq_true rfl) rfl hl.1 rfl (Nat.le_of_ble_eq_true rfl) dX4_copyOf_38 (Nat.le_of_ble_eq_true rfl) (Nat.le_of_ble_eq_true rfl)) (fun _ H locs h => ?_)
  have h : ST g A s [(dO, .inr (4, [.ref dp, .int 0, .ref dv, .ref ds, .int 0, .ref dsh])), (dv, .inl (g.2 4, 4, .inr (.inr (.inr (.inr (va_up (va_up (va_up (va_up (fun _ => none) 0 (some dv0)) 1 (some dv1)) 2 (some dv2)) 3 (some dv3))))))), (nO, .inr (4, [.ref np, .int 0, .ref nv, .ref ns, .int 0, .ref nsh])), (nv, .inl (g.2 4, 4, .inr (.inr (.inr (.inr (va_up (va_up (va_up (va_up (fun _ => none) 0 (some nv0)) 1 (some nv1)) 2 (some nv2)) 3 (some nv3))))))), (dp, .inr (2, [.int 241, .ref dpb, .int 0])), (np, .inr (2, [.int 241, .ref npb, .int 0])), (dv0, .inr (2, [.int 12, .ref dv0b, .int 0])), (nv0, .inr (2, [.int 12, .ref nv0b, .int 0])), (dv1, .inr (2, [.int 12, .ref dv1b, .int 0])), (nv1, .inr (2, [.int 12, .ref nv1b, .int 0])), (dv2, .inr (2, [.int 12, .ref dv2b, .int 0])), (nv2, .inr (2, [.int 12, .ref nv2b, .int 0])), (dv3, .inr (2, [.int 12, .ref dv3b, .int 0])), (nv3, .inr (2, [.int 12, .ref nv3b, .int 0]))] H locs := h
  refine lv_iinc (v := 4) (lv' := [(2, .int 4), (0, .ref dO), (1, .ref nO)]) hx hb dX4_copyOf_41 hl (k := 0) rfl (by decide) (by decide) rfl (fun ls hl => ?_)
  refine lv_goto (tgt := 21) hx hb dX4_copyOf_44 (by decide) ?_
  refine lv_iload_n hx hb dX4_copyOf_21 rfl (lv_at hl 0 rfl) ?_
  refine lv_iconst (v := 4) hx hb dX4_copyOf_22 (by decide) ?_
  refine lv_icmp_ge (tgt := 47) hx hb dX4_copyOf_23 (by decide) (fun c_5 => ?_) (fun c_5 => absurd (by decide) c_5)
  refine lv_aload_n hx hb dX4_copyOf_47 rfl (lv_at hl 1 rfl) ?_
  refine lv_aload_n hx hb dX4_copyOf_48 rfl (lv_at hl 2 rfl) ?_
  refine r_get X h kl4 2 4 rfl (by decide) lk_X4_34 rfl dX4_copyOf_49 ?_
  refine r_put X h kl4 0 4 (v := .int 0) rfl (by decide) lk_X4_34 rfl rfl rfl (Nat.le_of_ble_eq_true rfl) dX4_copyOf_52 (fun H locs h => ?_)
  have h : ST g A s [(dO, .inr (4, [.ref dp, .int 0, .ref dv, .ref ds, .int 0, .ref dsh])), (dv, .inl (g.2 4, 4, .inr (.inr (.inr (.inr (va_up (va_up (va_up (va_up (fun _ => none) 0 (some dv0)) 1 (some dv1)) 2 (some dv2)) 3 (some dv3))))))), (nO, .inr (4, [.ref np, .int 0, .ref nv, .ref ns, .int 0, .ref nsh])), (nv, .inl (g.2 4, 4, .inr (.inr (.inr (.inr (va_up (va_up (va_up (va_up (fun _ => none) 0 (some nv0)) 1 (some nv1)) 2 (some nv2)) 3 (some nv3))))))), (dp, .inr (2, [.int 241, .ref dpb, .int 0])), (np, .inr (2, [.int 241, .ref npb, .int 0])), (dv0, .inr (2, [.int 12, .ref dv0b, .int 0])), (nv0, .inr (2, [.int 12, .ref nv0b, .int 0])), (dv1, .inr (2, [.int 12, .ref dv1b, .int 0])), (nv1, .inr (2, [.int 12, .ref nv1b, .int 0])), (dv2, .inr (2, [.int 12, .ref dv2b, .int 0])), (nv2, .inr (2, [.int 12, .ref nv2b, .int 0])), (dv3, .inr (2, [.int 12, .ref dv3b, .int 0])), (nv3, .inr (2, [.int 12, .ref nv3b, .int 0]))] H locs := h
  refine lv_iconst (v := 0) hx hb dX4_copyOf_55 (by decide) ?_
  refine lv_istore_n (lv' := [(2, .int 0), (0, .ref dO), (1, .ref nO)]) hx hb dX4_copyOf_56 rfl hl (by decide) rfl (fun ls hl => ?_)
  refine lv_iload_n hx hb dX4_copyOf_57 rfl (lv_at hl 0 rfl) ?_
  refine lv_aload_n hx hb dX4_copyOf_58 rfl (lv_at hl 1 rfl) ?_
  refine r_get X h kl4 0 4 rfl (by decide) lk_X4_34 rfl dX4_copyOf_59 ?_
  refine lv_icmp_ge (tgt := 91) hx hb dX4_copyOf_62 (by decide) (fun c_6 => ?_) (fun c_6 => absurd (by decide) c_6)
  exact r_vret X h hAe () [0, 4, 1, 6, 8, 10, 12, 2, 5, 3, 7, 9, 11, 13] rfl rfl 0 0 (Nat.le_of_ble_eq_true rfl) (Nat.le_of_ble_eq_true rfl) dX4_copyOf_91

set_option maxHeartbeats 4000000 in
set_option maxRecDepth 100000 in
/-- State.insertAtCaret(v) at the start of nothing -/
theorem c4_insertAtCaret (l : Launch) (g : GE) (sz : Nat) (dO : Nat) (dp : Nat) (dv : Nat) (ds : Nat) (dsh : Nat) (dpb : Nat) (v : Int32) : Met l yX4_insertAtCaret (.code yX4_insertAtCaret cX4_insertAtCaret 2 none :: WL) { frames := 3, cells := 1, slots := 16, locals := 68 } (PR g [.ref dO, .int v] [(dO, .inr (4, [.ref dp, .int 0, .ref dv, .ref ds, .int 0, .ref dsh])), (dp, .inr (2, [.int 241, .ref dpb, .int 0])), (dpb, .inl (g.2 0, 0, .inl (fun _ => 0)))] sz) (QV g [(dO, .inr (4, [.ref dp, .int 0, .ref dv, .ref ds, .int 0, .ref dsh])), (dp, .inr (2, [.int 241, .ref dpb, .int 0])), (dpb, .inl (g.2 0, 0, .inl (fun _ => 0)))] sz (fun u : Nat => [(dO, .inr (4, [.ref dp, .int 1, .ref dv, .ref ds, .int 0, .ref dsh])), (dp, .inr (2, [.int 241, .ref u, .int 1])), (u, .inl (g.2 0, 16, .inl (upd (upd (fun _ => 0) 0 (vp_nar .byte (Int8.toInt32 (Int32.toInt8 v)))) 0 (vp_nar .byte (Int8.toInt32 (Int32.toInt8 v))))))])) 1 16 (va_A [(dO, .inr (4, [.ref dp, .int 0, .ref dv, .ref ds, .int 0, .ref dsh])), (dp, .inr (2, [.int 241, .ref dpb, .int 0])), (dpb, .inl (g.2 0, 0, .inl (fun _ => 0)))] sz) := by
  refine k_start (by decide) (Nat.le_of_ble_eq_true rfl) ?_
  intro pp ee s m bb mm cd A H locs hAe X h ls hl
  have X : CX g pp s m mm cd _ cX4_insertAtCaret 2 RX4 "insertAtCaret" none A := X
  have hx := X.1
  have hb := X.2.1
  have hl : lv_has ls 2 [(0, .ref dO), (1, .int v)] := hl
  refine lv_aload_n hx hb dX4_insertAtCaret_0 rfl (lv_at hl 0 rfl) ?_
  refine r_get X h kl4 0 0 rfl (by decide) lk_X4_14 rfl dX4_insertAtCaret_1 ?_
  refine lv_aload_n hx hb dX4_insertAtCaret_4 rfl (lv_at hl 0 rfl) ?_
  refine r_get X h kl4 0 1 rfl (by decide) lk_X4_20 rfl dX4_insertAtCaret_5 ?_
  refine lv_iload_n hx hb dX4_insertAtCaret_8 rfl (lv_at hl 1 rfl) ?_
  refine k_v X h [1, 2] [0] (wr := [(dO, .inr (4, [.ref dp, .int 0, .ref dv, .ref ds, .int 0, .ref dsh]))]) rfl rfl rfl (by decide) 1 16 (Nat.le_of_ble_eq_true rfl) (Nat.le_of_ble_eq_true rfl) (k_runV X h (As := [.int 0, .int v]) (rest := []) (c2_insert l g H.size dp dpb v) cw_X4_83 [1, 2] rfl rfl 1 kl2 rfl rfl rfl (Nat.le_of_ble_eq_true rfl) (Nat.le_of_ble_eq_true rfl) rfl hl.1 rfl (Nat.le_of_ble_eq_true rfl) dX4_insertAtCaret_9 (Nat.le_of_ble_eq_true rfl) (Nat.le_of_ble_eq_true rfl)) (fun u9 H locs h => ?_)
  obtain ⟨u_1, rfl⟩ : ∃ z, z = u9 := ⟨_, rfl⟩
  have h : ST g A s [(dO, .inr (4, [.ref dp, .int 0, .ref dv, .ref ds, .int 0, .ref dsh])), (dp, .inr (2, [.int 241, .ref u_1, .int 1])), (u_1, .inl (g.2 0, 16, .inl (upd (upd (fun _ => 0) 0 (vp_nar .byte (Int8.toInt32 (Int32.toInt8 v)))) 0 (vp_nar .byte (Int8.toInt32 (Int32.toInt8 v))))))] H locs := h
  refine lv_aload_n hx hb dX4_insertAtCaret_12 rfl (lv_at hl 0 rfl) ?_
  refine lv_dup hx hb dX4_insertAtCaret_13 rfl ?_
  refine r_get X h kl4 0 1 rfl (by decide) lk_X4_20 rfl dX4_insertAtCaret_14 ?_
  refine lv_iconst (v := 1) hx hb dX4_insertAtCaret_17 (by decide) ?_
  refine lv_iadd hx hb dX4_insertAtCaret_18 ?_
  refine r_vi (y := 1) (by decide) ?_
  refine r_put X h kl4 0 1 (v := .int 1) rfl (by decide) lk_X4_20 rfl rfl rfl (Nat.le_of_ble_eq_true rfl) dX4_insertAtCaret_19 (fun H locs h => ?_)
  have h : ST g A s [(dO, .inr (4, [.ref dp, .int 1, .ref dv, .ref ds, .int 0, .ref dsh])), (dp, .inr (2, [.int 241, .ref u_1, .int 1])), (u_1, .inl (g.2 0, 16, .inl (upd (upd (fun _ => 0) 0 (vp_nar .byte (Int8.toInt32 (Int32.toInt8 v)))) 0 (vp_nar .byte (Int8.toInt32 (Int32.toInt8 v))))))] H locs := h
  exact r_vret X h hAe u_1 [0, 1, 2] rfl rfl 1 16 (Nat.le_of_ble_eq_true rfl) (Nat.le_of_ble_eq_true rfl) dX4_insertAtCaret_22

set_option maxHeartbeats 4000000 in
set_option maxRecDepth 100000 in
/-- State.settle(), fresh -/
theorem c4_settle0 (l : Launch) (g : GE) (sz : Nat) (dO : Nat) (dp : Nat) (dv : Nat) (ds : Nat) (dsh : Nat) (dpb : Nat) (ds0 : Nat) (ds1 : Nat) (ds2 : Nat) (dshb : Nat) : Met l yX4_settle (.code yX4_settle cX4_settle 3 (some .boolean) :: WL) { frames := 2, cells := 0, slots := 0, locals := 37 } (PR g [.ref dO] [(dO, .inr (4, [.ref dp, .int 0, .ref dv, .ref ds, .int 0, .ref dsh])), (dp, .inr (2, [.int 241, .ref dpb, .int 0])), (ds, .inl (g.2 5, 3, .inr (.inr (.inr (.inr (va_up (va_up (va_up (fun _ => none) 0 (some ds0)) 1 (some ds1)) 2 (some ds2))))))), (dsh, .inr (2, [.int 241, .ref dshb, .int 0]))] sz) (QI g [(dO, .inr (4, [.ref dp, .int 0, .ref dv, .ref ds, .int 0, .ref dsh])), (dp, .inr (2, [.int 241, .ref dpb, .int 0])), (ds, .inl (g.2 5, 3, .inr (.inr (.inr (.inr (va_up (va_up (va_up (fun _ => none) 0 (some ds0)) 1 (some ds1)) 2 (some ds2))))))), (dsh, .inr (2, [.int 241, .ref dshb, .int 0]))] sz 1 (fun _ : Unit => [(dO, .inr (4, [.ref dp, .int 0, .ref dv, .ref ds, .int 0, .ref dsh])), (dp, .inr (2, [.int 241, .ref dpb, .int 0])), (ds, .inl (g.2 5, 3, .inr (.inr (.inr (.inr (va_up (va_up (va_up (fun _ => none) 0 (some ds0)) 1 (some ds1)) 2 (some ds2))))))), (dsh, .inr (2, [.int 241, .ref dshb, .int 0]))])) 0 0 (va_A [(dO, .inr (4, [.ref dp, .int 0, .ref dv, .ref ds, .int 0, .ref dsh])), (dp, .inr (2, [.int 241, .ref dpb, .int 0])), (ds, .inl (g.2 5, 3, .inr (.inr (.inr (.inr (va_up (va_up (va_up (fun _ => none) 0 (some ds0)) 1 (some ds1)) 2 (some ds2))))))), (dsh, .inr (2, [.int 241, .ref dshb, .int 0]))] sz) := by
  refine k_start (by decide) (Nat.le_of_ble_eq_true rfl) ?_
  intro pp ee s m bb mm cd A H locs hAe X h ls hl
  have X : CX g pp s m mm cd _ cX4_settle 3 RX4 "settle" (some .boolean) A := X
  have hx := X.1
  have hb := X.2.1
  have hl : lv_has ls 3 [(0, .ref dO)] := hl
  refine lv_aload_n hx hb dX4_settle_0 rfl (lv_at hl 0 rfl) ?_
  refine r_get X h kl4 0 4 rfl (by decide) lk_X4_34 rfl dX4_settle_1 ?_
  refine lv_aload_n hx hb dX4_settle_4 rfl (lv_at hl 0 rfl) ?_
  refine r_get X h kl4 0 3 rfl (by decide) lk_X4_30 rfl dX4_settle_5 ?_
  refine r_alen X h 2 5 (v := 3) rfl rfl rfl dX4_settle_8 ?_
  refine r_min X (v := 0) lk_X4_90 lk_min_s lk_min_i lk_min_c hl.1 (Nat.le_of_ble_eq_true rfl) (Nat.le_of_ble_eq_true rfl) (Nat.le_of_ble_eq_true rfl) (Nat.le_of_ble_eq_true rfl) dX4_settle_9 (by decide) ?_
  refine lv_iconst (v := 1) hx hb dX4_settle_12 (by decide) ?_
  refine lv_isub hx hb dX4_settle_13 ?_
  refine r_vi (y := (-1)) (by decide) ?_
  refine lv_istore_n (lv' := [(1, .int (-1)), (0, .ref dO)]) hx hb dX4_settle_14 rfl hl (by decide) rfl (fun ls hl => ?_)
  refine lv_iload_n hx hb dX4_settle_15 rfl (lv_at hl 0 rfl) ?_
  refine lv_if_le (tgt := 89) hx hb dX4_settle_16 (by decide) (fun c_1 => ?_) (fun c_1 => absurd (by decide) c_1)
  refine lv_aload_n hx hb dX4_settle_89 rfl (lv_at hl 1 rfl) ?_
  refine r_get X h kl4 0 5 rfl (by decide) lk_X4_37 rfl dX4_settle_90 ?_
  refine k_v X h [3] [0, 1, 2] (wr := [(dO, .inr (4, [.ref dp, .int 0, .ref dv, .ref ds, .int 0, .ref dsh])), (dp, .inr (2, [.int 241, .ref dpb, .int 0])), (ds, .inl (g.2 5, 3, .inr (.inr (.inr (.inr (va_up (va_up (va_up (fun _ => none) 0 (some ds0)) 1 (some ds1)) 2 (some ds2)))))))]) rfl rfl rfl (by decide) 0 0 (Nat.le_of_ble_eq_true rfl) (Nat.le_of_ble_eq_true rfl) (k_runV X h (As := []) (rest := []) (c2_empty l g H.size dsh 241 dshb 0) cw_X4_99 [3] rfl rfl 3 kl2 rfl rfl rfl (Nat.le_of_ble_eq_true rfl) (Nat.le_of_ble_eq_true rfl) rfl hl.1 rfl (Nat.le_of_ble_eq_true rfl) dX4_settle_93 (Nat.le_of_ble_eq_true rfl) (Nat.le_of_ble_eq_true rfl)) (fun _ H locs h => ?_)
  have h : ST g A s [(dO, .inr (4, [.ref dp, .int 0, .ref dv, .ref ds, .int 0, .ref dsh])), (dp, .inr (2, [.int 241, .ref dpb, .int 0])), (ds, .inl (g.2 5, 3, .inr (.inr (.inr (.inr (va_up (va_up (va_up (fun _ => none) 0 (some ds0)) 1 (some ds1)) 2 (some ds2))))))), (dsh, .inr (2, [.int 241, .ref dshb, .int 0]))] H locs := h
  refine lv_aload_n hx hb dX4_settle_96 rfl (lv_at hl 1 rfl) ?_
  refine r_get X h kl4 0 5 rfl (by decide) lk_X4_37 rfl dX4_settle_97 ?_
  refine lv_aload_n hx hb dX4_settle_100 rfl (lv_at hl 1 rfl) ?_
  refine r_get X h kl4 0 0 rfl (by decide) lk_X4_14 rfl dX4_settle_101 ?_
  refine lv_iconst (v := 0) hx hb dX4_settle_104 (by decide) ?_
  refine lv_aload_n hx hb dX4_settle_105 rfl (lv_at hl 1 rfl) ?_
  refine r_get X h kl4 0 1 rfl (by decide) lk_X4_20 rfl dX4_settle_106 ?_
  refine k_v X h [3] [0, 1, 2] (wr := [(dO, .inr (4, [.ref dp, .int 0, .ref dv, .ref ds, .int 0, .ref dsh])), (dp, .inr (2, [.int 241, .ref dpb, .int 0])), (ds, .inl (g.2 5, 3, .inr (.inr (.inr (.inr (va_up (va_up (va_up (fun _ => none) 0 (some ds0)) 1 (some ds1)) 2 (some ds2)))))))]) rfl rfl rfl (by decide) 0 0 (Nat.le_of_ble_eq_true rfl) (Nat.le_of_ble_eq_true rfl) (k_runV X h (As := [.ref dp, .int 0, .int 0]) (rest := []) (c2_addPart0_241 l g H.size dsh dshb dp) cw_X4_112 [3] rfl rfl 3 kl2 rfl rfl rfl (Nat.le_of_ble_eq_true rfl) (Nat.le_of_ble_eq_true rfl) rfl hl.1 rfl (Nat.le_of_ble_eq_true rfl) dX4_settle_109 (Nat.le_of_ble_eq_true rfl) (Nat.le_of_ble_eq_true rfl)) (fun _ H locs h => ?_)
  have h : ST g A s [(dO, .inr (4, [.ref dp, .int 0, .ref dv, .ref ds, .int 0, .ref dsh])), (dp, .inr (2, [.int 241, .ref dpb, .int 0])), (ds, .inl (g.2 5, 3, .inr (.inr (.inr (.inr (va_up (va_up (va_up (fun _ => none) 0 (some ds0)) 1 (some ds1)) 2 (some ds2))))))), (dsh, .inr (2, [.int 241, .ref dshb, .int 0]))] H locs := h
  refine lv_aload_n hx hb dX4_settle_112 rfl (lv_at hl 1 rfl) ?_
  refine r_get X h kl4 0 4 rfl (by decide) lk_X4_34 rfl dX4_settle_113 ?_
  refine lv_if_le (tgt := 132) hx hb dX4_settle_116 (by decide) (fun c_2 => ?_) (fun c_2 => absurd (by decide) c_2)
  refine lv_aload_n hx hb dX4_settle_132 rfl (lv_at hl 1 rfl) ?_
  refine r_get X h kl4 0 5 rfl (by decide) lk_X4_37 rfl dX4_settle_133 ?_
  refine lv_aload_n hx hb dX4_settle_136 rfl (lv_at hl 1 rfl) ?_
  refine r_get X h kl4 0 0 rfl (by decide) lk_X4_14 rfl dX4_settle_137 ?_
  refine lv_aload_n hx hb dX4_settle_140 rfl (lv_at hl 1 rfl) ?_
  refine r_get X h kl4 0 1 rfl (by decide) lk_X4_20 rfl dX4_settle_141 ?_
  refine lv_aload_n hx hb dX4_settle_144 rfl (lv_at hl 1 rfl) ?_
  refine r_get X h kl4 0 0 rfl (by decide) lk_X4_14 rfl dX4_settle_145 ?_
  refine k_i X h [1] [0, 2, 3] (wr := [(dO, .inr (4, [.ref dp, .int 0, .ref dv, .ref ds, .int 0, .ref dsh])), (ds, .inl (g.2 5, 3, .inr (.inr (.inr (.inr (va_up (va_up (va_up (fun _ => none) 0 (some ds0)) 1 (some ds1)) 2 (some ds2))))))), (dsh, .inr (2, [.int 241, .ref dshb, .int 0]))]) rfl rfl rfl (by decide) 0 0 (Nat.le_of_ble_eq_true rfl) (Nat.le_of_ble_eq_true rfl) (k_runV X h (As := []) (rest := [.int 0, .ref dp, .ref dsh]) (c2_size l g H.size dp 241 dpb 0) cw_X4_75 [1] rfl rfl 1 kl2 rfl rfl rfl (Nat.le_of_ble_eq_true rfl) (Nat.le_of_ble_eq_true rfl) rfl hl.1 rfl (Nat.le_of_ble_eq_true rfl) dX4_settle_148 (Nat.le_of_ble_eq_true rfl) (Nat.le_of_ble_eq_true rfl)) (fun _ H locs h => ?_)
  have h : ST g A s [(dO, .inr (4, [.ref dp, .int 0, .ref dv, .ref ds, .int 0, .ref dsh])), (ds, .inl (g.2 5, 3, .inr (.inr (.inr (.inr (va_up (va_up (va_up (fun _ => none) 0 (some ds0)) 1 (some ds1)) 2 (some ds2))))))), (dsh, .inr (2, [.int 241, .ref dshb, .int 0])), (dp, .inr (2, [.int 241, .ref dpb, .int 0]))] H locs := h
  refine k_v X h [2] [0, 1, 3] (wr := [(dO, .inr (4, [.ref dp, .int 0, .ref dv, .ref ds, .int 0, .ref dsh])), (ds, .inl (g.2 5, 3, .inr (.inr (.inr (.inr (va_up (va_up (va_up (fun _ => none) 0 (some ds0)) 1 (some ds1)) 2 (some ds2))))))), (dp, .inr (2, [.int 241, .ref dpb, .int 0]))]) rfl rfl rfl (by decide) 0 0 (Nat.le_of_ble_eq_true rfl) (Nat.le_of_ble_eq_true rfl) (k_runV X h (As := [.ref dp, .int 0, .int 0]) (rest := []) (c2_addPart0_241 l g H.size dsh dshb dp) cw_X4_112 [2] rfl rfl 2 kl2 rfl rfl rfl (Nat.le_of_ble_eq_true rfl) (Nat.le_of_ble_eq_true rfl) rfl hl.1 rfl (Nat.le_of_ble_eq_true rfl) dX4_settle_151 (Nat.le_of_ble_eq_true rfl) (Nat.le_of_ble_eq_true rfl)) (fun _ H locs h => ?_)
  have h : ST g A s [(dO, .inr (4, [.ref dp, .int 0, .ref dv, .ref ds, .int 0, .ref dsh])), (ds, .inl (g.2 5, 3, .inr (.inr (.inr (.inr (va_up (va_up (va_up (fun _ => none) 0 (some ds0)) 1 (some ds1)) 2 (some ds2))))))), (dp, .inr (2, [.int 241, .ref dpb, .int 0])), (dsh, .inr (2, [.int 241, .ref dshb, .int 0]))] H locs := h
  refine lv_aload_n hx hb dX4_settle_154 rfl (lv_at hl 1 rfl) ?_
  refine r_get X h kl4 0 5 rfl (by decide) lk_X4_37 rfl dX4_settle_155 ?_
  refine k_i X h [3] [0, 1, 2] (wr := [(dO, .inr (4, [.ref dp, .int 0, .ref dv, .ref ds, .int 0, .ref dsh])), (ds, .inl (g.2 5, 3, .inr (.inr (.inr (.inr (va_up (va_up (va_up (fun _ => none) 0 (some ds0)) 1 (some ds1)) 2 (some ds2))))))), (dp, .inr (2, [.int 241, .ref dpb, .int 0]))]) rfl rfl rfl (by decide) 0 0 (Nat.le_of_ble_eq_true rfl) (Nat.le_of_ble_eq_true rfl) (k_runV X h (As := []) (rest := []) (c2_size l g H.size dsh 241 dshb 0) cw_X4_75 [3] rfl rfl 3 kl2 rfl rfl rfl (Nat.le_of_ble_eq_true rfl) (Nat.le_of_ble_eq_true rfl) rfl hl.1 rfl (Nat.le_of_ble_eq_true rfl) dX4_settle_158 (Nat.le_of_ble_eq_true rfl) (Nat.le_of_ble_eq_true rfl)) (fun _ H locs h => ?_)
  have h : ST g A s [(dO, .inr (4, [.ref dp, .int 0, .ref dv, .ref ds, .int 0, .ref dsh])), (ds, .inl (g.2 5, 3, .inr (.inr (.inr (.inr (va_up (va_up (va_up (fun _ => none) 0 (some ds0)) 1 (some ds1)) 2 (some ds2))))))), (dp, .inr (2, [.int 241, .ref dpb, .int 0])), (dsh, .inr (2, [.int 241, .ref dshb, .int 0]))] H locs := h
  refine lv_sipush (v := 240) hx hb dX4_settle_161 (by decide) ?_
  refine lv_icmp_gt (tgt := 171) hx hb dX4_settle_164 (by decide) (fun c_3 => absurd c_3 (by decide)) (fun c_3 => ?_)
  refine lv_iconst (v := 1) hx hb dX4_settle_167 (by decide) ?_
  refine lv_goto (tgt := 172) hx hb dX4_settle_168 (by decide) ?_
  exact r_zret X h hAe () [0, 2, 1, 3] rfl rfl 0 0 (Nat.le_of_ble_eq_true rfl) (Nat.le_of_ble_eq_true rfl) rfl rfl dX4_settle_172

set_option maxHeartbeats 4000000 in
set_option maxRecDepth 100000 in
/-- State.settle(), one byte -/
theorem c4_settleK (l : Launch) (g : GE) (sz : Nat) (dO : Nat) (dp : Nat) (dv : Nat) (ds : Nat) (dsh : Nat) (dpb : Nat) (ds0 : Nat) (ds1 : Nat) (ds2 : Nat) (dshb : Nat) (f : Nat → Int32) (hf : ∀ i, i < Int32.toNatClampNeg 1 → fits .byte (.int (f (Int32.toNatClampNeg 0 + i))) = true) : Met l yX4_settle (.code yX4_settle cX4_settle 3 (some .boolean) :: WL) { frames := 2, cells := 1, slots := 16, locals := 64 } (PR g [.ref dO] [(dO, .inr (4, [.ref dp, .int 1, .ref dv, .ref ds, .int 0, .ref dsh])), (dp, .inr (2, [.int 241, .ref dpb, .int 1])), (dpb, .inl (g.2 0, 16, .inl f)), (ds, .inl (g.2 5, 3, .inr (.inr (.inr (.inr (va_up (va_up (va_up (fun _ => none) 0 (some ds0)) 1 (some ds1)) 2 (some ds2))))))), (dsh, .inr (2, [.int 241, .ref dshb, .int 0])), (dshb, .inl (g.2 0, 0, .inl (fun _ => 0)))] sz) (QI g [(dO, .inr (4, [.ref dp, .int 1, .ref dv, .ref ds, .int 0, .ref dsh])), (dp, .inr (2, [.int 241, .ref dpb, .int 1])), (dpb, .inl (g.2 0, 16, .inl f)), (ds, .inl (g.2 5, 3, .inr (.inr (.inr (.inr (va_up (va_up (va_up (fun _ => none) 0 (some ds0)) 1 (some ds1)) 2 (some ds2))))))), (dsh, .inr (2, [.int 241, .ref dshb, .int 0])), (dshb, .inl (g.2 0, 0, .inl (fun _ => 0)))] sz 1 (fun u : Nat => [(dO, .inr (4, [.ref dp, .int 1, .ref dv, .ref ds, .int 0, .ref dsh])), (dp, .inr (2, [.int 241, .ref dpb, .int 1])), (ds, .inl (g.2 5, 3, .inr (.inr (.inr (.inr (va_up (va_up (va_up (fun _ => none) 0 (some ds0)) 1 (some ds1)) 2 (some ds2))))))), (dsh, .inr (2, [.int 241, .ref u, .int 1]))])) 1 16 (va_A [(dO, .inr (4, [.ref dp, .int 1, .ref dv, .ref ds, .int 0, .ref dsh])), (dp, .inr (2, [.int 241, .ref dpb, .int 1])), (dpb, .inl (g.2 0, 16, .inl f)), (ds, .inl (g.2 5, 3, .inr (.inr (.inr (.inr (va_up (va_up (va_up (fun _ => none) 0 (some ds0)) 1 (some ds1)) 2 (some ds2))))))), (dsh, .inr (2, [.int 241, .ref dshb, .int 0])), (dshb, .inl (g.2 0, 0, .inl (fun _ => 0)))] sz) := by
  refine k_start (by decide) (Nat.le_of_ble_eq_true rfl) ?_
  intro pp ee s m bb mm cd A H locs hAe X h ls hl
  have X : CX g pp s m mm cd _ cX4_settle 3 RX4 "settle" (some .boolean) A := X
  have hx := X.1
  have hb := X.2.1
  have hl : lv_has ls 3 [(0, .ref dO)] := hl
  refine lv_aload_n hx hb dX4_settle_0 rfl (lv_at hl 0 rfl) ?_
  refine r_get X h kl4 0 4 rfl (by decide) lk_X4_34 rfl dX4_settle_1 ?_
  refine lv_aload_n hx hb dX4_settle_4 rfl (lv_at hl 0 rfl) ?_
  refine r_get X h kl4 0 3 rfl (by decide) lk_X4_30 rfl dX4_settle_5 ?_
  refine r_alen X h 3 5 (v := 3) rfl rfl rfl dX4_settle_8 ?_
  refine r_min X (v := 0) lk_X4_90 lk_min_s lk_min_i lk_min_c hl.1 (Nat.le_of_ble_eq_true rfl) (Nat.le_of_ble_eq_true rfl) (Nat.le_of_ble_eq_true rfl) (Nat.le_of_ble_eq_true rfl) dX4_settle_9 (by decide) ?_
  refine lv_iconst (v := 1) hx hb dX4_settle_12 (by decide) ?_
  refine lv_isub hx hb dX4_settle_13 ?_
  refine r_vi (y := (-1)) (by decide) ?_
  refine lv_istore_n (lv' := [(1, .int (-1)), (0, .ref dO)]) hx hb dX4_settle_14 rfl hl (by decide) rfl (fun ls hl => ?_)
  refine lv_iload_n hx hb dX4_settle_15 rfl (lv_at hl 0 rfl) ?_
  refine lv_if_le (tgt := 89) hx hb dX4_settle_16 (by decide) (fun c_1 => ?_) (fun c_1 => absurd (by decide) c_1)
  refine lv_aload_n hx hb dX4_settle_89 rfl (lv_at hl 1 rfl) ?_
  refine r_get X h kl4 0 5 rfl (by decide) lk_X4_37 rfl dX4_settle_90 ?_
  refine k_v X h [4] [0, 1, 2, 3, 5] (wr := [(dO, .inr (4, [.ref dp, .int 1, .ref dv, .ref ds, .int 0, .ref dsh])), (dp, .inr (2, [.int 241, .ref dpb, .int 1])), (dpb, .inl (g.2 0, 16, .inl f)), (ds, .inl (g.2 5, 3, .inr (.inr (.inr (.inr (va_up (va_up (va_up (fun _ => none) 0 (some ds0)) 1 (some ds1)) 2 (some ds2))))))), (dshb, .inl (g.2 0, 0, .inl (fun _ => 0)))]) rfl rfl rfl (by decide) 0 0 (Nat.le_of_ble_eq_true rfl) (Nat.le_of_ble_eq_true rfl) (k_runV X h (As := []) (rest := []) (c2_empty l g H.size dsh 241 dshb 0) cw_X4_99 [4] rfl rfl 4 kl2 rfl rfl rfl (Nat.le_of_ble_eq_true rfl) (Nat.le_of_ble_eq_true rfl) rfl hl.1 rfl (Nat.le_of_ble_eq_true rfl) dX4_settle_93 (Nat.le_of_ble_eq_true rfl) (Nat.le_of_ble_eq_true rfl)) (fun _ H locs h => ?_)
  have h : ST g A s [(dO, .inr (4, [.ref dp, .int 1, .ref dv, .ref ds, .int 0, .ref dsh])), (dp, .inr (2, [.int 241, .ref dpb, .int 1])), (dpb, .inl (g.2 0, 16, .inl f)), (ds, .inl (g.2 5, 3, .inr (.inr (.inr (.inr (va_up (va_up (va_up (fun _ => none) 0 (some ds0)) 1 (some ds1)) 2 (some ds2))))))), (dshb, .inl (g.2 0, 0, .inl (fun _ => 0))), (dsh, .inr (2, [.int 241, .ref dshb, .int 0]))] H locs := h
  refine lv_aload_n hx hb dX4_settle_96 rfl (lv_at hl 1 rfl) ?_
  refine r_get X h kl4 0 5 rfl (by decide) lk_X4_37 rfl dX4_settle_97 ?_
  refine lv_aload_n hx hb dX4_settle_100 rfl (lv_at hl 1 rfl) ?_
  refine r_get X h kl4 0 0 rfl (by decide) lk_X4_14 rfl dX4_settle_101 ?_
  refine lv_iconst (v := 0) hx hb dX4_settle_104 (by decide) ?_
  refine lv_aload_n hx hb dX4_settle_105 rfl (lv_at hl 1 rfl) ?_
  refine r_get X h kl4 0 1 rfl (by decide) lk_X4_20 rfl dX4_settle_106 ?_
  refine k_v X h [5, 4, 1, 2] [0, 3] (wr := [(dO, .inr (4, [.ref dp, .int 1, .ref dv, .ref ds, .int 0, .ref dsh])), (ds, .inl (g.2 5, 3, .inr (.inr (.inr (.inr (va_up (va_up (va_up (fun _ => none) 0 (some ds0)) 1 (some ds1)) 2 (some ds2)))))))]) rfl rfl rfl (by decide) 1 16 (Nat.le_of_ble_eq_true rfl) (Nat.le_of_ble_eq_true rfl) (k_runV X h (As := [.ref dp, .int 0, .int 1]) (rest := []) (c2_addPart01 l g H.size dsh dshb dp dpb 241 f hf) cw_X4_112 [5, 4, 1, 2] rfl rfl 5 kl2 rfl rfl rfl (Nat.le_of_ble_eq_true rfl) (Nat.le_of_ble_eq_true rfl) rfl hl.1 rfl (Nat.le_of_ble_eq_true rfl) dX4_settle_109 (Nat.le_of_ble_eq_true rfl) (Nat.le_of_ble_eq_true rfl)) (fun u9 H locs h => ?_)
  obtain ⟨u_2, rfl⟩ : ∃ z, z = u9 := ⟨_, rfl⟩
  have h : ST g A s [(dO, .inr (4, [.ref dp, .int 1, .ref dv, .ref ds, .int 0, .ref dsh])), (ds, .inl (g.2 5, 3, .inr (.inr (.inr (.inr (va_up (va_up (va_up (fun _ => none) 0 (some ds0)) 1 (some ds1)) 2 (some ds2))))))), (dsh, .inr (2, [.int 241, .ref u_2, .int 1])), (dp, .inr (2, [.int 241, .ref dpb, .int 1])), (dpb, .inl (g.2 0, 16, .inl f))] H locs := h
  refine lv_aload_n hx hb dX4_settle_112 rfl (lv_at hl 1 rfl) ?_
  refine r_get X h kl4 0 4 rfl (by decide) lk_X4_34 rfl dX4_settle_113 ?_
  refine lv_if_le (tgt := 132) hx hb dX4_settle_116 (by decide) (fun c_3 => ?_) (fun c_3 => absurd (by decide) c_3)
  refine lv_aload_n hx hb dX4_settle_132 rfl (lv_at hl 1 rfl) ?_
  refine r_get X h kl4 0 5 rfl (by decide) lk_X4_37 rfl dX4_settle_133 ?_
  refine lv_aload_n hx hb dX4_settle_136 rfl (lv_at hl 1 rfl) ?_
  refine r_get X h kl4 0 0 rfl (by decide) lk_X4_14 rfl dX4_settle_137 ?_
  refine lv_aload_n hx hb dX4_settle_140 rfl (lv_at hl 1 rfl) ?_
  refine r_get X h kl4 0 1 rfl (by decide) lk_X4_20 rfl dX4_settle_141 ?_
  refine lv_aload_n hx hb dX4_settle_144 rfl (lv_at hl 1 rfl) ?_
  refine r_get X h kl4 0 0 rfl (by decide) lk_X4_14 rfl dX4_settle_145 ?_
  refine k_i X h [3] [0, 1, 2, 4] (wr := [(dO, .inr (4, [.ref dp, .int 1, .ref dv, .ref ds, .int 0, .ref dsh])), (ds, .inl (g.2 5, 3, .inr (.inr (.inr (.inr (va_up (va_up (va_up (fun _ => none) 0 (some ds0)) 1 (some ds1)) 2 (some ds2))))))), (dsh, .inr (2, [.int 241, .ref u_2, .int 1])), (dpb, .inl (g.2 0, 16, .inl f))]) rfl rfl rfl (by decide) 1 16 (Nat.le_of_ble_eq_true rfl) (Nat.le_of_ble_eq_true rfl) (k_runV X h (As := []) (rest := [.int 1, .ref dp, .ref dsh]) (c2_size l g H.size dp 241 dpb 1) cw_X4_75 [3] rfl rfl 3 kl2 rfl rfl rfl (Nat.le_of_ble_eq_true rfl) (Nat.le_of_ble_eq_true rfl) rfl hl.1 rfl (Nat.le_of_ble_eq_true rfl) dX4_settle_148 (Nat.le_of_ble_eq_true rfl) (Nat.le_of_ble_eq_true rfl)) (fun _ H locs h => ?_)
  have h : ST g A s [(dO, .inr (4, [.ref dp, .int 1, .ref dv, .ref ds, .int 0, .ref dsh])), (ds, .inl (g.2 5, 3, .inr (.inr (.inr (.inr (va_up (va_up (va_up (fun _ => none) 0 (some ds0)) 1 (some ds1)) 2 (some ds2))))))), (dsh, .inr (2, [.int 241, .ref u_2, .int 1])), (dpb, .inl (g.2 0, 16, .inl f)), (dp, .inr (2, [.int 241, .ref dpb, .int 1]))] H locs := h
  refine k_v X h [2] [0, 1, 3, 4] (wr := [(dO, .inr (4, [.ref dp, .int 1, .ref dv, .ref ds, .int 0, .ref dsh])), (ds, .inl (g.2 5, 3, .inr (.inr (.inr (.inr (va_up (va_up (va_up (fun _ => none) 0 (some ds0)) 1 (some ds1)) 2 (some ds2))))))), (dpb, .inl (g.2 0, 16, .inl f)), (dp, .inr (2, [.int 241, .ref dpb, .int 1]))]) rfl rfl rfl (by decide) 1 16 (Nat.le_of_ble_eq_true rfl) (Nat.le_of_ble_eq_true rfl) (k_runV X h (As := [.ref dp, .int 1, .int 1]) (rest := []) (c2_addPart11 l g H.size dsh u_2 dp) cw_X4_112 [2] rfl rfl 2 kl2 rfl rfl rfl (Nat.le_of_ble_eq_true rfl) (Nat.le_of_ble_eq_true rfl) rfl hl.1 rfl (Nat.le_of_ble_eq_true rfl) dX4_settle_151 (Nat.le_of_ble_eq_true rfl) (Nat.le_of_ble_eq_true rfl)) (fun _ H locs h => ?_)
  have h : ST g A s [(dO, .inr (4, [.ref dp, .int 1, .ref dv, .ref ds, .int 0, .ref dsh])), (ds, .inl (g.2 5, 3, .inr (.inr (.inr (.inr (va_up (va_up (va_up (fun _ => none) 0 (some ds0)) 1 (some ds1)) 2 (some ds2))))))), (dpb, .inl (g.2 0, 16, .inl f)), (dp, .inr (2, [.int 241, .ref dpb, .int 1])), (dsh, .inr (2, [.int 241, .ref u_2, .int 1]))] H locs := h
  refine lv_aload_n hx hb dX4_settle_154 rfl (lv_at hl 1 rfl) ?_
  refine r_get X h kl4 0 5 rfl (by decide) lk_X4_37 rfl dX4_settle_155 ?_
  refine k_i X h [4] [0, 1, 2, 3] (wr := [(dO, .inr (4, [.ref dp, .int 1, .ref dv, .ref ds, .int 0, .ref dsh])), (ds, .inl (g.2 5, 3, .inr (.inr (.inr (.inr (va_up (va_up (va_up (fun _ => none) 0 (some ds0)) 1 (some ds1)) 2 (some ds2))))))), (dpb, .inl (g.2 0, 16, .inl f)), (dp, .inr (2, [.int 241, .ref dpb, .int 1]))]) rfl rfl rfl (by decide) 1 16 (Nat.le_of_ble_eq_true rfl) (Nat.le_of_ble_eq_true rfl) (k_runV X h (As := []) (rest := []) (c2_size l g H.size dsh 241 u_2 1) cw_X4_75 [4] rfl rfl 4 kl2 rfl rfl rfl (Nat.le_of_ble_eq_true rfl) (Nat.le_of_ble_eq_true rfl) rfl hl.1 rfl (Nat.le_of_ble_eq_true rfl) dX4_settle_158 (Nat.le_of_ble_eq_true rfl) (Nat.le_of_ble_eq_true rfl)) (fun _ H locs h => ?_)
  have h : ST g A s [(dO, .inr (4, [.ref dp, .int 1, .ref dv, .ref ds, .int 0, .ref dsh])), (ds, .inl (g.2 5, 3, .inr (.inr (.inr (.inr (va_up (va_up (va_up (fun _ => none) 0 (some ds0)) 1 (some ds1)) 2 (some ds2))))))), (dpb, .inl (g.2 0, 16, .inl f)), (dp, .inr (2, [.int 241, .ref dpb, .int 1])), (dsh, .inr (2, [.int 241, .ref u_2, .int 1]))] H locs := h
  refine lv_sipush (v := 240) hx hb dX4_settle_161 (by decide) ?_
  refine lv_icmp_gt (tgt := 171) hx hb dX4_settle_164 (by decide) (fun c_4 => absurd c_4 (by decide)) (fun c_4 => ?_)
  refine lv_iconst (v := 1) hx hb dX4_settle_167 (by decide) ?_
  refine lv_goto (tgt := 172) hx hb dX4_settle_168 (by decide) ?_
  exact r_zret X h hAe u_2 [0, 3, 1, 4] rfl rfl 1 16 (Nat.le_of_ble_eq_true rfl) (Nat.le_of_ble_eq_true rfl) rfl rfl dX4_settle_172

set_option maxHeartbeats 4000000 in
set_option maxRecDepth 100000 in
/-- Session.occurrencesThere(k), none -/
theorem c3_occ (l : Launch) (g : GE) (sz : Nat) (ds0 : Nat) (t : Nat) (ss : Nat) (st : Nat) (sb : Nat) (sg : Nat) (sl : Nat) (tc : Nat) (tO : Nat) (tm : Nat) (k : Int32) (sp : Int32) (fr : Int32) : Met l yX3_occurrencesThere (.code yX3_occurrencesThere cX3_occurrencesThere 5 (some .int) :: WL) { frames := 1, cells := 0, slots := 0, locals := 20 } (PR g [.ref ds0, .int k] [(ds0, .inr (3, [.ref t, .int sp, .int fr, .ref ss, .ref st, .ref sb, .ref sg, .ref sl])), (t, .inr (5, [.ref tc, .ref tO, .int 0, .ref tm]))] sz) (QI g [(ds0, .inr (3, [.ref t, .int sp, .int fr, .ref ss, .ref st, .ref sb, .ref sg, .ref sl])), (t, .inr (5, [.ref tc, .ref tO, .int 0, .ref tm]))] sz 0 (fun _ : Unit => [(ds0, .inr (3, [.ref t, .int sp, .int fr, .ref ss, .ref st, .ref sb, .ref sg, .ref sl])), (t, .inr (5, [.ref tc, .ref tO, .int 0, .ref tm]))])) 0 0 (va_A [(ds0, .inr (3, [.ref t, .int sp, .int fr, .ref ss, .ref st, .ref sb, .ref sg, .ref sl])), (t, .inr (5, [.ref tc, .ref tO, .int 0, .ref tm]))] sz) := by
  refine k_start (by decide) (Nat.le_of_ble_eq_true rfl) ?_
  intro pp ee s m bb mm cd A H locs hAe X h ls hl
  have X : CX g pp s m mm cd _ cX3_occurrencesThere 5 RX3 "occurrencesThere" (some .int) A := X
  have hx := X.1
  have hb := X.2.1
  have hl : lv_has ls 5 [(0, .ref ds0), (1, .int k)] := hl
  refine lv_iconst (v := 0) hx hb dX3_occurrencesThere_0 (by decide) ?_
  refine lv_istore_n (lv' := [(2, .int 0), (0, .ref ds0), (1, .int k)]) hx hb dX3_occurrencesThere_1 rfl hl (by decide) rfl (fun ls hl => ?_)
  refine lv_iconst (v := 0) hx hb dX3_occurrencesThere_2 (by decide) ?_
  refine lv_istore_n (lv' := [(3, .int 0), (2, .int 0), (0, .ref ds0), (1, .int k)]) hx hb dX3_occurrencesThere_3 rfl hl (by decide) rfl (fun ls hl => ?_)
  refine lv_iload_n hx hb dX3_occurrencesThere_4 rfl (lv_at hl 0 rfl) ?_
  refine lv_aload_n hx hb dX3_occurrencesThere_5 rfl (lv_at hl 2 rfl) ?_
  refine r_get X h kl3 0 0 rfl (by decide) lk_X3_40 rfl dX3_occurrencesThere_6 ?_
  refine k_i X h [1] [0] (wr := [(ds0, .inr (3, [.ref t, .int sp, .int fr, .ref ss, .ref st, .ref sb, .ref sg, .ref sl]))]) rfl rfl rfl (by decide) 0 0 (Nat.le_of_ble_eq_true rfl) (Nat.le_of_ble_eq_true rfl) (k_runV X h (As := []) (rest := [.int 0]) (c5_size l g H.size t tc tO tm) cw_X3_78 [1] rfl rfl 1 kl5 rfl rfl rfl (Nat.le_of_ble_eq_true rfl) (Nat.le_of_ble_eq_true rfl) rfl hl.1 rfl (Nat.le_of_ble_eq_true rfl) dX3_occurrencesThere_9 (Nat.le_of_ble_eq_true rfl) (Nat.le_of_ble_eq_true rfl)) (fun _ H locs h => ?_)
  have h : ST g A s [(ds0, .inr (3, [.ref t, .int sp, .int fr, .ref ss, .ref st, .ref sb, .ref sg, .ref sl])), (t, .inr (5, [.ref tc, .ref tO, .int 0, .ref tm]))] H locs := h
  refine lv_icmp_ge (tgt := 57) hx hb dX3_occurrencesThere_12 (by decide) (fun c_1 => ?_) (fun c_1 => absurd (by decide) c_1)
  refine lv_iload_n hx hb dX3_occurrencesThere_57 rfl (lv_at hl 1 rfl) ?_
  exact r_iret X h hAe () [0, 1] rfl rfl 0 0 (Nat.le_of_ble_eq_true rfl) (Nat.le_of_ble_eq_true rfl) rfl dX3_occurrencesThere_58

set_option maxHeartbeats 4000000 in
set_option maxRecDepth 100000 in
/-- Session.findThere(0, 0), none -/
theorem c3_find (l : Launch) (g : GE) (sz : Nat) (ds0 : Nat) (t : Nat) (ss : Nat) (st : Nat) (sb : Nat) (sg : Nat) (sl : Nat) (tc : Nat) (tO : Nat) (tm : Nat) (sp : Int32) (fr : Int32) : Met l yX3_findThere (.code yX3_findThere cX3_findThere 6 (some (.object "SnippetStops$Occurrence")) :: WL) { frames := 1, cells := 0, slots := 0, locals := 20 } (PR g [.ref ds0, .int 0, .int 0] [(ds0, .inr (3, [.ref t, .int sp, .int fr, .ref ss, .ref st, .ref sb, .ref sg, .ref sl])), (t, .inr (5, [.ref tc, .ref tO, .int 0, .ref tm]))] sz) (QQ g [(ds0, .inr (3, [.ref t, .int sp, .int fr, .ref ss, .ref st, .ref sb, .ref sg, .ref sl])), (t, .inr (5, [.ref tc, .ref tO, .int 0, .ref tm]))] sz none (fun _ : Unit => [(ds0, .inr (3, [.ref t, .int sp, .int fr, .ref ss, .ref st, .ref sb, .ref sg, .ref sl])), (t, .inr (5, [.ref tc, .ref tO, .int 0, .ref tm]))])) 0 0 (va_A [(ds0, .inr (3, [.ref t, .int sp, .int fr, .ref ss, .ref st, .ref sb, .ref sg, .ref sl])), (t, .inr (5, [.ref tc, .ref tO, .int 0, .ref tm]))] sz) := by
  refine k_start (by decide) (Nat.le_of_ble_eq_true rfl) ?_
  intro pp ee s m bb mm cd A H locs hAe X h ls hl
  have X : CX g pp s m mm cd _ cX3_findThere 6 RX3 "findThere" (some (.object "SnippetStops$Occurrence")) A := X
  have hx := X.1
  have hb := X.2.1
  have hl : lv_has ls 6 [(0, .ref ds0), (1, .int 0), (2, .int 0)] := hl
  refine lv_iconst (v := 0) hx hb dX3_findThere_0 (by decide) ?_
  refine lv_istore_n (lv' := [(3, .int 0), (0, .ref ds0), (1, .int 0), (2, .int 0)]) hx hb dX3_findThere_1 rfl hl (by decide) rfl (fun ls hl => ?_)
  refine lv_iconst (v := 0) hx hb dX3_findThere_2 (by decide) ?_
  refine lv_istore (lv' := [(4, .int 0), (3, .int 0), (0, .ref ds0), (1, .int 0), (2, .int 0)]) hx hb dX3_findThere_3 hl (by decide) rfl (fun ls hl => ?_)
  refine lv_iload hx hb dX3_findThere_5 (lv_at hl 0 rfl) ?_
  refine lv_aload_n hx hb dX3_findThere_7 rfl (lv_at hl 2 rfl) ?_
  refine r_get X h kl3 0 0 rfl (by decide) lk_X3_40 rfl dX3_findThere_8 ?_
  refine k_i X h [1] [0] (wr := [(ds0, .inr (3, [.ref t, .int sp, .int fr, .ref ss, .ref st, .ref sb, .ref sg, .ref sl]))]) rfl rfl rfl (by decide) 0 0 (Nat.le_of_ble_eq_true rfl) (Nat.le_of_ble_eq_true rfl) (k_runV X h (As := []) (rest := [.int 0]) (c5_size l g H.size t tc tO tm) cw_X3_78 [1] rfl rfl 1 kl5 rfl rfl rfl (Nat.le_of_ble_eq_true rfl) (Nat.le_of_ble_eq_true rfl) rfl hl.1 rfl (Nat.le_of_ble_eq_true rfl) dX3_findThere_11 (Nat.le_of_ble_eq_true rfl) (Nat.le_of_ble_eq_true rfl)) (fun _ H locs h => ?_)
  have h : ST g A s [(ds0, .inr (3, [.ref t, .int sp, .int fr, .ref ss, .ref st, .ref sb, .ref sg, .ref sl])), (t, .inr (5, [.ref tc, .ref tO, .int 0, .ref tm]))] H locs := h
  refine lv_icmp_ge (tgt := 68) hx hb dX3_findThere_14 (by decide) (fun c_1 => ?_) (fun c_1 => absurd (by decide) c_1)
  refine lv_null hx hb dX3_findThere_68 ?_
  exact r_aret X h hAe () [0, 1] rfl rfl 0 0 (Nat.le_of_ble_eq_true rfl) (Nat.le_of_ble_eq_true rfl) rfl dX3_findThere_69

set_option maxHeartbeats 4000000 in
set_option maxRecDepth 100000 in
/-- Session.leastAbove(0), none -/
theorem c3_least (l : Launch) (g : GE) (sz : Nat) (ds0 : Nat) (t : Nat) (ss : Nat) (st : Nat) (sb : Nat) (sg : Nat) (sl : Nat) (tc : Nat) (tO : Nat) (tm : Nat) (sp : Int32) (fr : Int32) : Met l yX3_leastAbove (.code yX3_leastAbove cX3_leastAbove 3 (some .int) :: WL) { frames := 2, cells := 0, slots := 0, locals := 44 } (PR g [.ref ds0, .int 0] [(ds0, .inr (3, [.ref t, .int sp, .int fr, .ref ss, .ref st, .ref sb, .ref sg, .ref sl])), (t, .inr (5, [.ref tc, .ref tO, .int 0, .ref tm]))] sz) (QI g [(ds0, .inr (3, [.ref t, .int sp, .int fr, .ref ss, .ref st, .ref sb, .ref sg, .ref sl])), (t, .inr (5, [.ref tc, .ref tO, .int 0, .ref tm]))] sz (-1) (fun _ : Unit => [(ds0, .inr (3, [.ref t, .int sp, .int fr, .ref ss, .ref st, .ref sb, .ref sg, .ref sl])), (t, .inr (5, [.ref tc, .ref tO, .int 0, .ref tm]))])) 0 0 (va_A [(ds0, .inr (3, [.ref t, .int sp, .int fr, .ref ss, .ref st, .ref sb, .ref sg, .ref sl])), (t, .inr (5, [.ref tc, .ref tO, .int 0, .ref tm]))] sz) := by
  refine k_start (by decide) (Nat.le_of_ble_eq_true rfl) ?_
  intro pp ee s m bb mm cd A H locs hAe X h ls hl
  have X : CX g pp s m mm cd _ cX3_leastAbove 3 RX3 "leastAbove" (some .int) A := X
  have hx := X.1
  have hb := X.2.1
  have hl : lv_has ls 3 [(0, .ref ds0), (1, .int 0)] := hl
  refine lv_iconst (v := 1) hx hb dX3_leastAbove_0 (by decide) ?_
  refine lv_istore_n (lv' := [(2, .int 1), (0, .ref ds0), (1, .int 0)]) hx hb dX3_leastAbove_1 rfl hl (by decide) rfl (fun ls hl => ?_)
  refine lv_iload_n hx hb dX3_leastAbove_2 rfl (lv_at hl 0 rfl) ?_
  refine lv_bipush (v := 10) hx hb dX3_leastAbove_3 (by decide) ?_
  refine lv_icmp_ge (tgt := 29) hx hb dX3_leastAbove_5 (by decide) (fun c_1 => absurd c_1 (by decide)) (fun c_1 => ?_)
  refine lv_iload_n hx hb dX3_leastAbove_8 rfl (lv_at hl 0 rfl) ?_
  refine lv_iload_n hx hb dX3_leastAbove_9 rfl (lv_at hl 2 rfl) ?_
  refine lv_icmp_le (tgt := 23) hx hb dX3_leastAbove_10 (by decide) (fun c_2 => absurd c_2 (by decide)) (fun c_2 => ?_)
  refine lv_aload_n hx hb dX3_leastAbove_13 rfl (lv_at hl 1 rfl) ?_
  refine lv_iload_n hx hb dX3_leastAbove_14 rfl (lv_at hl 0 rfl) ?_
  refine k_i X h [0, 1] [] (wr := []) rfl rfl rfl (by decide) 0 0 (Nat.le_of_ble_eq_true rfl) (Nat.le_of_ble_eq_true rfl) (k_runV X h (As := [.int 1]) (rest := []) (c3_occ l g H.size ds0 t ss st sb sg sl tc tO tm 1 sp fr) cw_X3_89 [0, 1] rfl rfl 0 kl3 rfl rfl rfl (Nat.le_of_ble_eq_true rfl) (Nat.le_of_ble_eq_true rfl) rfl hl.1 rfl (Nat.le_of_ble_eq_true rfl) dX3_leastAbove_15 (Nat.le_of_ble_eq_true rfl) (Nat.le_of_ble_eq_true rfl)) (fun _ H locs h => ?_)
  have h : ST g A s [(ds0, .inr (3, [.ref t, .int sp, .int fr, .ref ss, .ref st, .ref sb, .ref sg, .ref sl])), (t, .inr (5, [.ref tc, .ref tO, .int 0, .ref tm]))] H locs := h
  refine lv_if_le (tgt := 23) hx hb dX3_leastAbove_18 (by decide) (fun c_3 => ?_) (fun c_3 => absurd (by decide) c_3)
  refine lv_iinc (v := 2) (lv' := [(2, .int 2), (0, .ref ds0), (1, .int 0)]) hx hb dX3_leastAbove_23 hl (k := 0) rfl (by decide) (by decide) rfl (fun ls hl => ?_)
  refine lv_goto (tgt := 2) hx hb dX3_leastAbove_26 (by decide) ?_
  refine lv_iload_n hx hb dX3_leastAbove_2 rfl (lv_at hl 0 rfl) ?_
  refine lv_bipush (v := 10) hx hb dX3_leastAbove_3 (by decide) ?_
  refine lv_icmp_ge (tgt := 29) hx hb dX3_leastAbove_5 (by decide) (fun c_4 => absurd c_4 (by decide)) (fun c_4 => ?_)
  refine lv_iload_n hx hb dX3_leastAbove_8 rfl (lv_at hl 0 rfl) ?_
  refine lv_iload_n hx hb dX3_leastAbove_9 rfl (lv_at hl 2 rfl) ?_
  refine lv_icmp_le (tgt := 23) hx hb dX3_leastAbove_10 (by decide) (fun c_5 => absurd c_5 (by decide)) (fun c_5 => ?_)
  refine lv_aload_n hx hb dX3_leastAbove_13 rfl (lv_at hl 1 rfl) ?_
  refine lv_iload_n hx hb dX3_leastAbove_14 rfl (lv_at hl 0 rfl) ?_
  refine k_i X h [0, 1] [] (wr := []) rfl rfl rfl (by decide) 0 0 (Nat.le_of_ble_eq_true rfl) (Nat.le_of_ble_eq_true rfl) (k_runV X h (As := [.int 2]) (rest := []) (c3_occ l g H.size ds0 t ss st sb sg sl tc tO tm 2 sp fr) cw_X3_89 [0, 1] rfl rfl 0 kl3 rfl rfl rfl (Nat.le_of_ble_eq_true rfl) (Nat.le_of_ble_eq_true rfl) rfl hl.1 rfl (Nat.le_of_ble_eq_true rfl) dX3_leastAbove_15 (Nat.le_of_ble_eq_true rfl) (Nat.le_of_ble_eq_true rfl)) (fun _ H locs h => ?_)
  have h : ST g A s [(ds0, .inr (3, [.ref t, .int sp, .int fr, .ref ss, .ref st, .ref sb, .ref sg, .ref sl])), (t, .inr (5, [.ref tc, .ref tO, .int 0, .ref tm]))] H locs := h
  refine lv_if_le (tgt := 23) hx hb dX3_leastAbove_18 (by decide) (fun c_6 => ?_) (fun c_6 => absurd (by decide) c_6)
  refine lv_iinc (v := 3) (lv' := [(2, .int 3), (0, .ref ds0), (1, .int 0)]) hx hb dX3_leastAbove_23 hl (k := 0) rfl (by decide) (by decide) rfl (fun ls hl => ?_)
  refine lv_goto (tgt := 2) hx hb dX3_leastAbove_26 (by decide) ?_
  refine lv_iload_n hx hb dX3_leastAbove_2 rfl (lv_at hl 0 rfl) ?_
  refine lv_bipush (v := 10) hx hb dX3_leastAbove_3 (by decide) ?_
  refine lv_icmp_ge (tgt := 29) hx hb dX3_leastAbove_5 (by decide) (fun c_7 => absurd c_7 (by decide)) (fun c_7 => ?_)
  refine lv_iload_n hx hb dX3_leastAbove_8 rfl (lv_at hl 0 rfl) ?_
  refine lv_iload_n hx hb dX3_leastAbove_9 rfl (lv_at hl 2 rfl) ?_
  refine lv_icmp_le (tgt := 23) hx hb dX3_leastAbove_10 (by decide) (fun c_8 => absurd c_8 (by decide)) (fun c_8 => ?_)
  refine lv_aload_n hx hb dX3_leastAbove_13 rfl (lv_at hl 1 rfl) ?_
  refine lv_iload_n hx hb dX3_leastAbove_14 rfl (lv_at hl 0 rfl) ?_
  refine k_i X h [0, 1] [] (wr := []) rfl rfl rfl (by decide) 0 0 (Nat.le_of_ble_eq_true rfl) (Nat.le_of_ble_eq_true rfl) (k_runV X h (As := [.int 3]) (rest := []) (c3_occ l g H.size ds0 t ss st sb sg sl tc tO tm 3 sp fr) cw_X3_89 [0, 1] rfl rfl 0 kl3 rfl rfl rfl (Nat.le_of_ble_eq_true rfl) (Nat.le_of_ble_eq_true rfl) rfl hl.1 rfl (Nat.le_of_ble_eq_true rfl) dX3_leastAbove_15 (Nat.le_of_ble_eq_true rfl) (Nat.le_of_ble_eq_true rfl)) (fun _ H locs h => ?_)
  have h : ST g A s [(ds0, .inr (3, [.ref t, .int sp, .int fr, .ref ss, .ref st, .ref sb, .ref sg, .ref sl])), (t, .inr (5, [.ref tc, .ref tO, .int 0, .ref tm]))] H locs := h
  refine lv_if_le (tgt := 23) hx hb dX3_leastAbove_18 (by decide) (fun c_9 => ?_) (fun c_9 => absurd (by decide) c_9)
  refine lv_iinc (v := 4) (lv' := [(2, .int 4), (0, .ref ds0), (1, .int 0)]) hx hb dX3_leastAbove_23 hl (k := 0) rfl (by decide) (by decide) rfl (fun ls hl => ?_)
  refine lv_goto (tgt := 2) hx hb dX3_leastAbove_26 (by decide) ?_
  refine lv_iload_n hx hb dX3_leastAbove_2 rfl (lv_at hl 0 rfl) ?_
  refine lv_bipush (v := 10) hx hb dX3_leastAbove_3 (by decide) ?_
  refine lv_icmp_ge (tgt := 29) hx hb dX3_leastAbove_5 (by decide) (fun c_10 => absurd c_10 (by decide)) (fun c_10 => ?_)
  refine lv_iload_n hx hb dX3_leastAbove_8 rfl (lv_at hl 0 rfl) ?_
  refine lv_iload_n hx hb dX3_leastAbove_9 rfl (lv_at hl 2 rfl) ?_
  refine lv_icmp_le (tgt := 23) hx hb dX3_leastAbove_10 (by decide) (fun c_11 => absurd c_11 (by decide)) (fun c_11 => ?_)
  refine lv_aload_n hx hb dX3_leastAbove_13 rfl (lv_at hl 1 rfl) ?_
  refine lv_iload_n hx hb dX3_leastAbove_14 rfl (lv_at hl 0 rfl) ?_
  refine k_i X h [0, 1] [] (wr := []) rfl rfl rfl (by decide) 0 0 (Nat.le_of_ble_eq_true rfl) (Nat.le_of_ble_eq_true rfl) (k_runV X h (As := [.int 4]) (rest := []) (c3_occ l g H.size ds0 t ss st sb sg sl tc tO tm 4 sp fr) cw_X3_89 [0, 1] rfl rfl 0 kl3 rfl rfl rfl (Nat.le_of_ble_eq_true rfl) (Nat.le_of_ble_eq_true rfl) rfl hl.1 rfl (Nat.le_of_ble_eq_true rfl) dX3_leastAbove_15 (Nat.le_of_ble_eq_true rfl) (Nat.le_of_ble_eq_true rfl)) (fun _ H locs h => ?_)
  have h : ST g A s [(ds0, .inr (3, [.ref t, .int sp, .int fr, .ref ss, .ref st, .ref sb, .ref sg, .ref sl])), (t, .inr (5, [.ref tc, .ref tO, .int 0, .ref tm]))] H locs := h
  refine lv_if_le (tgt := 23) hx hb dX3_leastAbove_18 (by decide) (fun c_12 => ?_) (fun c_12 => absurd (by decide) c_12)
  refine lv_iinc (v := 5) (lv' := [(2, .int 5), (0, .ref ds0), (1, .int 0)]) hx hb dX3_leastAbove_23 hl (k := 0) rfl (by decide) (by decide) rfl (fun ls hl => ?_)
  refine lv_goto (tgt := 2) hx hb dX3_leastAbove_26 (by decide) ?_
  refine lv_iload_n hx hb dX3_leastAbove_2 rfl (lv_at hl 0 rfl) ?_
  refine lv_bipush (v := 10) hx hb dX3_leastAbove_3 (by decide) ?_
  refine lv_icmp_ge (tgt := 29) hx hb dX3_leastAbove_5 (by decide) (fun c_13 => absurd c_13 (by decide)) (fun c_13 => ?_)
  refine lv_iload_n hx hb dX3_leastAbove_8 rfl (lv_at hl 0 rfl) ?_
  refine lv_iload_n hx hb dX3_leastAbove_9 rfl (lv_at hl 2 rfl) ?_
  refine lv_icmp_le (tgt := 23) hx hb dX3_leastAbove_10 (by decide) (fun c_14 => absurd c_14 (by decide)) (fun c_14 => ?_)
  refine lv_aload_n hx hb dX3_leastAbove_13 rfl (lv_at hl 1 rfl) ?_
  refine lv_iload_n hx hb dX3_leastAbove_14 rfl (lv_at hl 0 rfl) ?_
  refine k_i X h [0, 1] [] (wr := []) rfl rfl rfl (by decide) 0 0 (Nat.le_of_ble_eq_true rfl) (Nat.le_of_ble_eq_true rfl) (k_runV X h (As := [.int 5]) (rest := []) (c3_occ l g H.size ds0 t ss st sb sg sl tc tO tm 5 sp fr) cw_X3_89 [0, 1] rfl rfl 0 kl3 rfl rfl rfl (Nat.le_of_ble_eq_true rfl) (Nat.le_of_ble_eq_true rfl) rfl hl.1 rfl (Nat.le_of_ble_eq_true rfl) dX3_leastAbove_15 (Nat.le_of_ble_eq_true rfl) (Nat.le_of_ble_eq_true rfl)) (fun _ H locs h => ?_)
  have h : ST g A s [(ds0, .inr (3, [.ref t, .int sp, .int fr, .ref ss, .ref st, .ref sb, .ref sg, .ref sl])), (t, .inr (5, [.ref tc, .ref tO, .int 0, .ref tm]))] H locs := h
  refine lv_if_le (tgt := 23) hx hb dX3_leastAbove_18 (by decide) (fun c_15 => ?_) (fun c_15 => absurd (by decide) c_15)
  refine lv_iinc (v := 6) (lv' := [(2, .int 6), (0, .ref ds0), (1, .int 0)]) hx hb dX3_leastAbove_23 hl (k := 0) rfl (by decide) (by decide) rfl (fun ls hl => ?_)
  refine lv_goto (tgt := 2) hx hb dX3_leastAbove_26 (by decide) ?_
  refine lv_iload_n hx hb dX3_leastAbove_2 rfl (lv_at hl 0 rfl) ?_
  refine lv_bipush (v := 10) hx hb dX3_leastAbove_3 (by decide) ?_
  refine lv_icmp_ge (tgt := 29) hx hb dX3_leastAbove_5 (by decide) (fun c_16 => absurd c_16 (by decide)) (fun c_16 => ?_)
  refine lv_iload_n hx hb dX3_leastAbove_8 rfl (lv_at hl 0 rfl) ?_
  refine lv_iload_n hx hb dX3_leastAbove_9 rfl (lv_at hl 2 rfl) ?_
  refine lv_icmp_le (tgt := 23) hx hb dX3_leastAbove_10 (by decide) (fun c_17 => absurd c_17 (by decide)) (fun c_17 => ?_)
  refine lv_aload_n hx hb dX3_leastAbove_13 rfl (lv_at hl 1 rfl) ?_
  refine lv_iload_n hx hb dX3_leastAbove_14 rfl (lv_at hl 0 rfl) ?_
  refine k_i X h [0, 1] [] (wr := []) rfl rfl rfl (by decide) 0 0 (Nat.le_of_ble_eq_true rfl) (Nat.le_of_ble_eq_true rfl) (k_runV X h (As := [.int 6]) (rest := []) (c3_occ l g H.size ds0 t ss st sb sg sl tc tO tm 6 sp fr) cw_X3_89 [0, 1] rfl rfl 0 kl3 rfl rfl rfl (Nat.le_of_ble_eq_true rfl) (Nat.le_of_ble_eq_true rfl) rfl hl.1 rfl (Nat.le_of_ble_eq_true rfl) dX3_leastAbove_15 (Nat.le_of_ble_eq_true rfl) (Nat.le_of_ble_eq_true rfl)) (fun _ H locs h => ?_)
  have h : ST g A s [(ds0, .inr (3, [.ref t, .int sp, .int fr, .ref ss, .ref st, .ref sb, .ref sg, .ref sl])), (t, .inr (5, [.ref tc, .ref tO, .int 0, .ref tm]))] H locs := h
  refine lv_if_le (tgt := 23) hx hb dX3_leastAbove_18 (by decide) (fun c_18 => ?_) (fun c_18 => absurd (by decide) c_18)
  refine lv_iinc (v := 7) (lv' := [(2, .int 7), (0, .ref ds0), (1, .int 0)]) hx hb dX3_leastAbove_23 hl (k := 0) rfl (by decide) (by decide) rfl (fun ls hl => ?_)
  refine lv_goto (tgt := 2) hx hb dX3_leastAbove_26 (by decide) ?_
  refine lv_iload_n hx hb dX3_leastAbove_2 rfl (lv_at hl 0 rfl) ?_
  refine lv_bipush (v := 10) hx hb dX3_leastAbove_3 (by decide) ?_
  refine lv_icmp_ge (tgt := 29) hx hb dX3_leastAbove_5 (by decide) (fun c_19 => absurd c_19 (by decide)) (fun c_19 => ?_)
  refine lv_iload_n hx hb dX3_leastAbove_8 rfl (lv_at hl 0 rfl) ?_
  refine lv_iload_n hx hb dX3_leastAbove_9 rfl (lv_at hl 2 rfl) ?_
  refine lv_icmp_le (tgt := 23) hx hb dX3_leastAbove_10 (by decide) (fun c_20 => absurd c_20 (by decide)) (fun c_20 => ?_)
  refine lv_aload_n hx hb dX3_leastAbove_13 rfl (lv_at hl 1 rfl) ?_
  refine lv_iload_n hx hb dX3_leastAbove_14 rfl (lv_at hl 0 rfl) ?_
  refine k_i X h [0, 1] [] (wr := []) rfl rfl rfl (by decide) 0 0 (Nat.le_of_ble_eq_true rfl) (Nat.le_of_ble_eq_true rfl) (k_runV X h (As := [.int 7]) (rest := []) (c3_occ l g H.size ds0 t ss st sb sg sl tc tO tm 7 sp fr) cw_X3_89 [0, 1] rfl rfl 0 kl3 rfl rfl rfl (Nat.le_of_ble_eq_true rfl) (Nat.le_of_ble_eq_true rfl) rfl hl.1 rfl (Nat.le_of_ble_eq_true rfl) dX3_leastAbove_15 (Nat.le_of_ble_eq_true rfl) (Nat.le_of_ble_eq_true rfl)) (fun _ H locs h => ?_)
  have h : ST g A s [(ds0, .inr (3, [.ref t, .int sp, .int fr, .ref ss, .ref st, .ref sb, .ref sg, .ref sl])), (t, .inr (5, [.ref tc, .ref tO, .int 0, .ref tm]))] H locs := h
  refine lv_if_le (tgt := 23) hx hb dX3_leastAbove_18 (by decide) (fun c_21 => ?_) (fun c_21 => absurd (by decide) c_21)
  refine lv_iinc (v := 8) (lv' := [(2, .int 8), (0, .ref ds0), (1, .int 0)]) hx hb dX3_leastAbove_23 hl (k := 0) rfl (by decide) (by decide) rfl (fun ls hl => ?_)
  refine lv_goto (tgt := 2) hx hb dX3_leastAbove_26 (by decide) ?_
  refine lv_iload_n hx hb dX3_leastAbove_2 rfl (lv_at hl 0 rfl) ?_
  refine lv_bipush (v := 10) hx hb dX3_leastAbove_3 (by decide) ?_
  refine lv_icmp_ge (tgt := 29) hx hb dX3_leastAbove_5 (by decide) (fun c_22 => absurd c_22 (by decide)) (fun c_22 => ?_)
  refine lv_iload_n hx hb dX3_leastAbove_8 rfl (lv_at hl 0 rfl) ?_
  refine lv_iload_n hx hb dX3_leastAbove_9 rfl (lv_at hl 2 rfl) ?_
  refine lv_icmp_le (tgt := 23) hx hb dX3_leastAbove_10 (by decide) (fun c_23 => absurd c_23 (by decide)) (fun c_23 => ?_)
  refine lv_aload_n hx hb dX3_leastAbove_13 rfl (lv_at hl 1 rfl) ?_
  refine lv_iload_n hx hb dX3_leastAbove_14 rfl (lv_at hl 0 rfl) ?_
  refine k_i X h [0, 1] [] (wr := []) rfl rfl rfl (by decide) 0 0 (Nat.le_of_ble_eq_true rfl) (Nat.le_of_ble_eq_true rfl) (k_runV X h (As := [.int 8]) (rest := []) (c3_occ l g H.size ds0 t ss st sb sg sl tc tO tm 8 sp fr) cw_X3_89 [0, 1] rfl rfl 0 kl3 rfl rfl rfl (Nat.le_of_ble_eq_true rfl) (Nat.le_of_ble_eq_true rfl) rfl hl.1 rfl (Nat.le_of_ble_eq_true rfl) dX3_leastAbove_15 (Nat.le_of_ble_eq_true rfl) (Nat.le_of_ble_eq_true rfl)) (fun _ H locs h => ?_)
  have h : ST g A s [(ds0, .inr (3, [.ref t, .int sp, .int fr, .ref ss, .ref st, .ref sb, .ref sg, .ref sl])), (t, .inr (5, [.ref tc, .ref tO, .int 0, .ref tm]))] H locs := h
  refine lv_if_le (tgt := 23) hx hb dX3_leastAbove_18 (by decide) (fun c_24 => ?_) (fun c_24 => absurd (by decide) c_24)
  refine lv_iinc (v := 9) (lv' := [(2, .int 9), (0, .ref ds0), (1, .int 0)]) hx hb dX3_leastAbove_23 hl (k := 0) rfl (by decide) (by decide) rfl (fun ls hl => ?_)
  refine lv_goto (tgt := 2) hx hb dX3_leastAbove_26 (by decide) ?_
  refine lv_iload_n hx hb dX3_leastAbove_2 rfl (lv_at hl 0 rfl) ?_
  refine lv_bipush (v := 10) hx hb dX3_leastAbove_3 (by decide) ?_
  refine lv_icmp_ge (tgt := 29) hx hb dX3_leastAbove_5 (by decide) (fun c_25 => absurd c_25 (by decide)) (fun c_25 => ?_)
  refine lv_iload_n hx hb dX3_leastAbove_8 rfl (lv_at hl 0 rfl) ?_
  refine lv_iload_n hx hb dX3_leastAbove_9 rfl (lv_at hl 2 rfl) ?_
  refine lv_icmp_le (tgt := 23) hx hb dX3_leastAbove_10 (by decide) (fun c_26 => absurd c_26 (by decide)) (fun c_26 => ?_)
  refine lv_aload_n hx hb dX3_leastAbove_13 rfl (lv_at hl 1 rfl) ?_
  refine lv_iload_n hx hb dX3_leastAbove_14 rfl (lv_at hl 0 rfl) ?_
  refine k_i X h [0, 1] [] (wr := []) rfl rfl rfl (by decide) 0 0 (Nat.le_of_ble_eq_true rfl) (Nat.le_of_ble_eq_true rfl) (k_runV X h (As := [.int 9]) (rest := []) (c3_occ l g H.size ds0 t ss st sb sg sl tc tO tm 9 sp fr) cw_X3_89 [0, 1] rfl rfl 0 kl3 rfl rfl rfl (Nat.le_of_ble_eq_true rfl) (Nat.le_of_ble_eq_true rfl) rfl hl.1 rfl (Nat.le_of_ble_eq_true rfl) dX3_leastAbove_15 (Nat.le_of_ble_eq_true rfl) (Nat.le_of_ble_eq_true rfl)) (fun _ H locs h => ?_)
  have h : ST g A s [(ds0, .inr (3, [.ref t, .int sp, .int fr, .ref ss, .ref st, .ref sb, .ref sg, .ref sl])), (t, .inr (5, [.ref tc, .ref tO, .int 0, .ref tm]))] H locs := h
  refine lv_if_le (tgt := 23) hx hb dX3_leastAbove_18 (by decide) (fun c_27 => ?_) (fun c_27 => absurd (by decide) c_27)
  refine lv_iinc (v := 10) (lv' := [(2, .int 10), (0, .ref ds0), (1, .int 0)]) hx hb dX3_leastAbove_23 hl (k := 0) rfl (by decide) (by decide) rfl (fun ls hl => ?_)
  refine lv_goto (tgt := 2) hx hb dX3_leastAbove_26 (by decide) ?_
  refine lv_iload_n hx hb dX3_leastAbove_2 rfl (lv_at hl 0 rfl) ?_
  refine lv_bipush (v := 10) hx hb dX3_leastAbove_3 (by decide) ?_
  refine lv_icmp_ge (tgt := 29) hx hb dX3_leastAbove_5 (by decide) (fun c_28 => ?_) (fun c_28 => absurd (by decide) c_28)
  refine lv_iconst (v := (-1)) hx hb dX3_leastAbove_29 (by decide) ?_
  exact r_iret X h hAe () [0, 1] rfl rfl 0 0 (Nat.le_of_ble_eq_true rfl) (Nat.le_of_ble_eq_true rfl) rfl dX3_leastAbove_30

set_option maxHeartbeats 4000000 in
set_option maxRecDepth 100000 in
/-- Session.comeTo(k) -/
theorem c3_comeTo (l : Launch) (g : GE) (sz : Nat) (ds0 : Nat) (t : Nat) (ss : Nat) (st : Nat) (sb : Nat) (sg : Nat) (sl : Nat) (k : Int32) (sp : Int32) (fr : Int32) : Met l yX3_comeTo (.code yX3_comeTo cX3_comeTo 2 none :: WL) { frames := 0, cells := 0, slots := 0, locals := 0 } (PR g [.ref ds0, .int k] [(ds0, .inr (3, [.ref t, .int sp, .int fr, .ref ss, .ref st, .ref sb, .ref sg, .ref sl]))] sz) (QV g [(ds0, .inr (3, [.ref t, .int sp, .int fr, .ref ss, .ref st, .ref sb, .ref sg, .ref sl]))] sz (fun _ : Unit => [(ds0, .inr (3, [.ref t, .int k, .int 1, .ref ss, .ref st, .ref sb, .ref sg, .ref sl]))])) 0 0 (va_A [(ds0, .inr (3, [.ref t, .int sp, .int fr, .ref ss, .ref st, .ref sb, .ref sg, .ref sl]))] sz) := by
  refine k_start (by decide) (Nat.le_of_ble_eq_true rfl) ?_
  intro pp ee s m bb mm cd A H locs hAe X h ls hl
  have X : CX g pp s m mm cd _ cX3_comeTo 2 RX3 "comeTo" none A := X
  have hx := X.1
  have hb := X.2.1
  have hl : lv_has ls 2 [(0, .ref ds0), (1, .int k)] := hl
  refine lv_aload_n hx hb dX3_comeTo_0 rfl (lv_at hl 0 rfl) ?_
  refine lv_iload_n hx hb dX3_comeTo_1 rfl (lv_at hl 1 rfl) ?_
  refine r_put X h kl3 0 1 (v := .int k) rfl (by decide) lk_X3_9 rfl rfl rfl (Nat.le_of_ble_eq_true rfl) dX3_comeTo_2 (fun H locs h => ?_)
  have h : ST g A s [(ds0, .inr (3, [.ref t, .int k, .int fr, .ref ss, .ref st, .ref sb, .ref sg, .ref sl]))] H locs := h
  refine lv_aload_n hx hb dX3_comeTo_5 rfl (lv_at hl 0 rfl) ?_
  refine lv_iconst (v := 1) hx hb dX3_comeTo_6 (by decide) ?_
  refine r_put X h kl3 0 2 (v := .int 1) rfl (by decide) lk_X3_15 rfl rfl rfl (Nat.le_of_ble_eq_true rfl) dX3_comeTo_7 (fun H locs h => ?_)
  have h : ST g A s [(ds0, .inr (3, [.ref t, .int k, .int 1, .ref ss, .ref st, .ref sb, .ref sg, .ref sl]))] H locs := h
  exact r_vret X h hAe () [0] rfl rfl 0 0 (Nat.le_of_ble_eq_true rfl) (Nat.le_of_ble_eq_true rfl) dX3_comeTo_10

set_option maxHeartbeats 4000000 in
set_option maxRecDepth 100000 in
/-- Session.begin of an empty template -/
theorem c3_begin (l : Launch) (g : GE) (sz : Nat) (ds0 : Nat) (t : Nat) (tb : Nat) (tc : Nat) (tO : Nat) (tm : Nat) (ss : Nat) (st : Nat) (sb : Nat) (sg : Nat) (sl : Nat) (fz : Nat → Int32) : Met l yX3_begin (.code yX3_begin cX3_begin 3 none :: WL) { frames := 3, cells := 0, slots := 0, locals := 66 } (PR g [.ref ds0, .ref t] [(ds0, .inr (3, [.ref tb, .int (-1), .int 0, .ref ss, .ref st, .ref sb, .ref sg, .ref sl])), (ss, .inl (g.2 2, 10, .inl fz)), (sb, .inl (g.2 5, 10, .inr (.inr (.inr (.inr (fun _ => none)))))), (t, .inr (5, [.ref tc, .ref tO, .int 0, .ref tm]))] sz) (QV g [(ds0, .inr (3, [.ref tb, .int (-1), .int 0, .ref ss, .ref st, .ref sb, .ref sg, .ref sl])), (ss, .inl (g.2 2, 10, .inl fz)), (sb, .inl (g.2 5, 10, .inr (.inr (.inr (.inr (fun _ => none)))))), (t, .inr (5, [.ref tc, .ref tO, .int 0, .ref tm]))] sz (fun _ : Unit => [(ds0, .inr (3, [.ref t, .int (-1), .int 1, .ref ss, .ref st, .ref sb, .ref sg, .ref sl])), (t, .inr (5, [.ref tc, .ref tO, .int 0, .ref tm]))])) 0 0 (va_A [(ds0, .inr (3, [.ref tb, .int (-1), .int 0, .ref ss, .ref st, .ref sb, .ref sg, .ref sl])), (ss, .inl (g.2 2, 10, .inl fz)), (sb, .inl (g.2 5, 10, .inr (.inr (.inr (.inr (fun _ => none)))))), (t, .inr (5, [.ref tc, .ref tO, .int 0, .ref tm]))] sz) := by
  refine k_start (by decide) (Nat.le_of_ble_eq_true rfl) ?_
  intro pp ee s m bb mm cd A H locs hAe X h ls hl
  have X : CX g pp s m mm cd _ cX3_begin 3 RX3 "begin" none A := X
  have hx := X.1
  have hb := X.2.1
  have hl : lv_has ls 3 [(0, .ref ds0), (1, .ref t)] := hl
  refine lv_aload_n hx hb dX3_begin_0 rfl (lv_at hl 0 rfl) ?_
  refine lv_aload_n hx hb dX3_begin_1 rfl (lv_at hl 1 rfl) ?_
  refine r_put X h kl3 0 0 (v := .ref t) rfl (by decide) lk_X3_40 rfl rfl rfl (Nat.le_of_ble_eq_true rfl) dX3_begin_2 (fun H locs h => ?_)
  have h : ST g A s [(ds0, .inr (3, [.ref t, .int (-1), .int 0, .ref ss, .ref st, .ref sb, .ref sg, .ref sl])), (ss, .inl (g.2 2, 10, .inl fz)), (sb, .inl (g.2 5, 10, .inr (.inr (.inr (.inr (fun _ => none)))))), (t, .inr (5, [.ref tc, .ref tO, .int 0, .ref tm]))] H locs := h
  refine lv_iconst (v := 0) hx hb dX3_begin_5 (by decide) ?_
  refine lv_istore_n (lv' := [(2, .int 0), (0, .ref ds0), (1, .ref t)]) hx hb dX3_begin_6 rfl hl (by decide) rfl (fun ls hl => ?_)
  refine lv_iload_n hx hb dX3_begin_7 rfl (lv_at hl 0 rfl) ?_
  refine lv_bipush (v := 10) hx hb dX3_begin_8 (by decide) ?_
  refine lv_icmp_ge (tgt := 33) hx hb dX3_begin_10 (by decide) (fun c_1 => absurd c_1 (by decide)) (fun c_1 => ?_)
  refine lv_aload_n hx hb dX3_begin_13 rfl (lv_at hl 1 rfl) ?_
  refine r_get X h kl3 0 3 rfl (by decide) lk_X3_19 rfl dX3_begin_14 ?_
  refine lv_iload_n hx hb dX3_begin_17 rfl (lv_at hl 0 rfl) ?_
  refine lv_iconst (v := 0) hx hb dX3_begin_18 (by decide) ?_
  refine r_zast X h 1 rfl (vp_lit (by decide +kernel)) dX3_begin_19 (fun f_2 H locs h => ?_)
  have h : ST g A s [(ds0, .inr (3, [.ref t, .int (-1), .int 0, .ref ss, .ref st, .ref sb, .ref sg, .ref sl])), (ss, .inl (g.2 2, 10, .inl f_2)), (sb, .inl (g.2 5, 10, .inr (.inr (.inr (.inr (fun _ => none)))))), (t, .inr (5, [.ref tc, .ref tO, .int 0, .ref tm]))] H locs := h
  refine lv_aload_n hx hb dX3_begin_20 rfl (lv_at hl 1 rfl) ?_
  refine r_get X h kl3 0 5 rfl (by decide) lk_X3_29 rfl dX3_begin_21 ?_
  refine lv_iload_n hx hb dX3_begin_24 rfl (lv_at hl 0 rfl) ?_
  refine lv_null hx hb dX3_begin_25 ?_
  refine r_aastN X h 2 5 rfl rfl (vp_lit (by decide +kernel)) dX3_begin_26 (fun H locs h => ?_)
  have h : ST g A s [(ds0, .inr (3, [.ref t, .int (-1), .int 0, .ref ss, .ref st, .ref sb, .ref sg, .ref sl])), (ss, .inl (g.2 2, 10, .inl f_2)), (sb, .inl (g.2 5, 10, .inr (.inr (.inr (.inr (va_up (fun _ => none) 0 none)))))), (t, .inr (5, [.ref tc, .ref tO, .int 0, .ref tm]))] H locs := h
  refine lv_iinc (v := 1) (lv' := [(2, .int 1), (0, .ref ds0), (1, .ref t)]) hx hb dX3_begin_27 hl (k := 0) rfl (by decide) (by decide) rfl (fun ls hl => ?_)
  refine lv_goto (tgt := 7) hx hb dX3_begin_30 (by decide) ?_
  refine lv_iload_n hx hb dX3_begin_7 rfl (lv_at hl 0 rfl) ?_
  refine lv_bipush (v := 10) hx hb dX3_begin_8 (by decide) ?_
  refine lv_icmp_ge (tgt := 33) hx hb dX3_begin_10 (by decide) (fun c_3 => absurd c_3 (by decide)) (fun c_3 => ?_)
  refine lv_aload_n hx hb dX3_begin_13 rfl (lv_at hl 1 rfl) ?_
  refine r_get X h kl3 0 3 rfl (by decide) lk_X3_19 rfl dX3_begin_14 ?_
  refine lv_iload_n hx hb dX3_begin_17 rfl (lv_at hl 0 rfl) ?_
  refine lv_iconst (v := 0) hx hb dX3_begin_18 (by decide) ?_
  refine r_zast X h 1 rfl (vp_lit (by decide +kernel)) dX3_begin_19 (fun f_4 H locs h => ?_)
  have h : ST g A s [(ds0, .inr (3, [.ref t, .int (-1), .int 0, .ref ss, .ref st, .ref sb, .ref sg, .ref sl])), (ss, .inl (g.2 2, 10, .inl f_4)), (sb, .inl (g.2 5, 10, .inr (.inr (.inr (.inr (va_up (fun _ => none) 0 none)))))), (t, .inr (5, [.ref tc, .ref tO, .int 0, .ref tm]))] H locs := h
  refine lv_aload_n hx hb dX3_begin_20 rfl (lv_at hl 1 rfl) ?_
  refine r_get X h kl3 0 5 rfl (by decide) lk_X3_29 rfl dX3_begin_21 ?_
  refine lv_iload_n hx hb dX3_begin_24 rfl (lv_at hl 0 rfl) ?_
  refine lv_null hx hb dX3_begin_25 ?_
  refine r_aastN X h 2 5 rfl rfl (vp_lit (by decide +kernel)) dX3_begin_26 (fun H locs h => ?_)
  have h : ST g A s [(ds0, .inr (3, [.ref t, .int (-1), .int 0, .ref ss, .ref st, .ref sb, .ref sg, .ref sl])), (ss, .inl (g.2 2, 10, .inl f_4)), (sb, .inl (g.2 5, 10, .inr (.inr (.inr (.inr (va_up (va_up (fun _ => none) 0 none) 1 none)))))), (t, .inr (5, [.ref tc, .ref tO, .int 0, .ref tm]))] H locs := h
  refine lv_iinc (v := 2) (lv' := [(2, .int 2), (0, .ref ds0), (1, .ref t)]) hx hb dX3_begin_27 hl (k := 0) rfl (by decide) (by decide) rfl (fun ls hl => ?_)
  refine lv_goto (tgt := 7) hx hb dX3_begin_30 (by decide) ?_
  refine lv_iload_n hx hb dX3_begin_7 rfl (lv_at hl 0 rfl) ?_
  refine lv_bipush (v := 10) hx hb dX3_begin_8 (by decide) ?_
  refine lv_icmp_ge (tgt := 33) hx hb dX3_begin_10 (by decide) (fun c_5 => absurd c_5 (by decide)) (fun c_5 => ?_)
  refine lv_aload_n hx hb dX3_begin_13 rfl (lv_at hl 1 rfl) ?_
  refine r_get X h kl3 0 3 rfl (by decide) lk_X3_19 rfl dX3_begin_14 ?_
  refine lv_iload_n hx hb dX3_begin_17 rfl (lv_at hl 0 rfl) ?_
  refine lv_iconst (v := 0) hx hb dX3_begin_18 (by decide) ?_
  refine r_zast X h 1 rfl (vp_lit (by decide +kernel)) dX3_begin_19 (fun f_6 H locs h => ?_)
  have h : ST g A s [(ds0, .inr (3, [.ref t, .int (-1), .int 0, .ref ss, .ref st, .ref sb, .ref sg, .ref sl])), (ss, .inl (g.2 2, 10, .inl f_6)), (sb, .inl (g.2 5, 10, .inr (.inr (.inr (.inr (va_up (va_up (fun _ => none) 0 none) 1 none)))))), (t, .inr (5, [.ref tc, .ref tO, .int 0, .ref tm]))] H locs := h
  refine lv_aload_n hx hb dX3_begin_20 rfl (lv_at hl 1 rfl) ?_
  refine r_get X h kl3 0 5 rfl (by decide) lk_X3_29 rfl dX3_begin_21 ?_
  refine lv_iload_n hx hb dX3_begin_24 rfl (lv_at hl 0 rfl) ?_
  refine lv_null hx hb dX3_begin_25 ?_
  refine r_aastN X h 2 5 rfl rfl (vp_lit (by decide +kernel)) dX3_begin_26 (fun H locs h => ?_)
  have h : ST g A s [(ds0, .inr (3, [.ref t, .int (-1), .int 0, .ref ss, .ref st, .ref sb, .ref sg, .ref sl])), (ss, .inl (g.2 2, 10, .inl f_6)), (sb, .inl (g.2 5, 10, .inr (.inr (.inr (.inr (va_up (va_up (va_up (fun _ => none) 0 none) 1 none) 2 none)))))), (t, .inr (5, [.ref tc, .ref tO, .int 0, .ref tm]))] H locs := h
  refine lv_iinc (v := 3) (lv' := [(2, .int 3), (0, .ref ds0), (1, .ref t)]) hx hb dX3_begin_27 hl (k := 0) rfl (by decide) (by decide) rfl (fun ls hl => ?_)
  refine lv_goto (tgt := 7) hx hb dX3_begin_30 (by decide) ?_
  refine lv_iload_n hx hb dX3_begin_7 rfl (lv_at hl 0 rfl) ?_
  refine lv_bipush (v := 10) hx hb dX3_begin_8 (by decide) ?_
  refine lv_icmp_ge (tgt := 33) hx hb dX3_begin_10 (by decide) (fun c_7 => absurd c_7 (by decide)) (fun c_7 => ?_)
  refine lv_aload_n hx hb dX3_begin_13 rfl (lv_at hl 1 rfl) ?_
  refine r_get X h kl3 0 3 rfl (by decide) lk_X3_19 rfl dX3_begin_14 ?_
  refine lv_iload_n hx hb dX3_begin_17 rfl (lv_at hl 0 rfl) ?_
  refine lv_iconst (v := 0) hx hb dX3_begin_18 (by decide) ?_
  refine r_zast X h 1 rfl (vp_lit (by decide +kernel)) dX3_begin_19 (fun f_8 H locs h => ?_)
  have h : ST g A s [(ds0, .inr (3, [.ref t, .int (-1), .int 0, .ref ss, .ref st, .ref sb, .ref sg, .ref sl])), (ss, .inl (g.2 2, 10, .inl f_8)), (sb, .inl (g.2 5, 10, .inr (.inr (.inr (.inr (va_up (va_up (va_up (fun _ => none) 0 none) 1 none) 2 none)))))), (t, .inr (5, [.ref tc, .ref tO, .int 0, .ref tm]))] H locs := h
  refine lv_aload_n hx hb dX3_begin_20 rfl (lv_at hl 1 rfl) ?_
  refine r_get X h kl3 0 5 rfl (by decide) lk_X3_29 rfl dX3_begin_21 ?_
  refine lv_iload_n hx hb dX3_begin_24 rfl (lv_at hl 0 rfl) ?_
  refine lv_null hx hb dX3_begin_25 ?_
  refine r_aastN X h 2 5 rfl rfl (vp_lit (by decide +kernel)) dX3_begin_26 (fun H locs h => ?_)
  have h : ST g A s [(ds0, .inr (3, [.ref t, .int (-1), .int 0, .ref ss, .ref st, .ref sb, .ref sg, .ref sl])), (ss, .inl (g.2 2, 10, .inl f_8)), (sb, .inl (g.2 5, 10, .inr (.inr (.inr (.inr (va_up (va_up (va_up (va_up (fun _ => none) 0 none) 1 none) 2 none) 3 none)))))), (t, .inr (5, [.ref tc, .ref tO, .int 0, .ref tm]))] H locs := h
  refine lv_iinc (v := 4) (lv' := [(2, .int 4), (0, .ref ds0), (1, .ref t)]) hx hb dX3_begin_27 hl (k := 0) rfl (by decide) (by decide) rfl (fun ls hl => ?_)
  refine lv_goto (tgt := 7) hx hb dX3_begin_30 (by decide) ?_
  refine lv_iload_n hx hb dX3_begin_7 rfl (lv_at hl 0 rfl) ?_
  refine lv_bipush (v := 10) hx hb dX3_begin_8 (by decide) ?_
  refine lv_icmp_ge (tgt := 33) hx hb dX3_begin_10 (by decide) (fun c_9 => absurd c_9 (by decide)) (fun c_9 => ?_)
  refine lv_aload_n hx hb dX3_begin_13 rfl (lv_at hl 1 rfl) ?_
  refine r_get X h kl3 0 3 rfl (by decide) lk_X3_19 rfl dX3_begin_14 ?_
  refine lv_iload_n hx hb dX3_begin_17 rfl (lv_at hl 0 rfl) ?_
  refine lv_iconst (v := 0) hx hb dX3_begin_18 (by decide) ?_
  refine r_zast X h 1 rfl (vp_lit (by decide +kernel)) dX3_begin_19 (fun f_10 H locs h => ?_)
  have h : ST g A s [(ds0, .inr (3, [.ref t, .int (-1), .int 0, .ref ss, .ref st, .ref sb, .ref sg, .ref sl])), (ss, .inl (g.2 2, 10, .inl f_10)), (sb, .inl (g.2 5, 10, .inr (.inr (.inr (.inr (va_up (va_up (va_up (va_up (fun _ => none) 0 none) 1 none) 2 none) 3 none)))))), (t, .inr (5, [.ref tc, .ref tO, .int 0, .ref tm]))] H locs := h
  refine lv_aload_n hx hb dX3_begin_20 rfl (lv_at hl 1 rfl) ?_
  refine r_get X h kl3 0 5 rfl (by decide) lk_X3_29 rfl dX3_begin_21 ?_
  refine lv_iload_n hx hb dX3_begin_24 rfl (lv_at hl 0 rfl) ?_
  refine lv_null hx hb dX3_begin_25 ?_
  refine r_aastN X h 2 5 rfl rfl (vp_lit (by decide +kernel)) dX3_begin_26 (fun H locs h => ?_)
  have h : ST g A s [(ds0, .inr (3, [.ref t, .int (-1), .int 0, .ref ss, .ref st, .ref sb, .ref sg, .ref sl])), (ss, .inl (g.2 2, 10, .inl f_10)), (sb, .inl (g.2 5, 10, .inr (.inr (.inr (.inr (va_up (va_up (va_up (va_up (va_up (fun _ => none) 0 none) 1 none) 2 none) 3 none) 4 none)))))), (t, .inr (5, [.ref tc, .ref tO, .int 0, .ref tm]))] H locs := h
  refine lv_iinc (v := 5) (lv' := [(2, .int 5), (0, .ref ds0), (1, .ref t)]) hx hb dX3_begin_27 hl (k := 0) rfl (by decide) (by decide) rfl (fun ls hl => ?_)
  refine lv_goto (tgt := 7) hx hb dX3_begin_30 (by decide) ?_
  refine lv_iload_n hx hb dX3_begin_7 rfl (lv_at hl 0 rfl) ?_
  refine lv_bipush (v := 10) hx hb dX3_begin_8 (by decide) ?_
  refine lv_icmp_ge (tgt := 33) hx hb dX3_begin_10 (by decide) (fun c_11 => absurd c_11 (by decide)) (fun c_11 => ?_)
  refine lv_aload_n hx hb dX3_begin_13 rfl (lv_at hl 1 rfl) ?_
  refine r_get X h kl3 0 3 rfl (by decide) lk_X3_19 rfl dX3_begin_14 ?_
  refine lv_iload_n hx hb dX3_begin_17 rfl (lv_at hl 0 rfl) ?_
  refine lv_iconst (v := 0) hx hb dX3_begin_18 (by decide) ?_
  refine r_zast X h 1 rfl (vp_lit (by decide +kernel)) dX3_begin_19 (fun f_12 H locs h => ?_)
  have h : ST g A s [(ds0, .inr (3, [.ref t, .int (-1), .int 0, .ref ss, .ref st, .ref sb, .ref sg, .ref sl])), (ss, .inl (g.2 2, 10, .inl f_12)), (sb, .inl (g.2 5, 10, .inr (.inr (.inr (.inr (va_up (va_up (va_up (va_up (va_up (fun _ => none) 0 none) 1 none) 2 none) 3 none) 4 none)))))), (t, .inr (5, [.ref tc, .ref tO, .int 0, .ref tm]))] H locs := h
  refine lv_aload_n hx hb dX3_begin_20 rfl (lv_at hl 1 rfl) ?_
  refine r_get X h kl3 0 5 rfl (by decide) lk_X3_29 rfl dX3_begin_21 ?_
  refine lv_iload_n hx hb dX3_begin_24 rfl (lv_at hl 0 rfl) ?_
  refine lv_null hx hb dX3_begin_25 ?_
  refine r_aastN X h 2 5 rfl rfl (vp_lit (by decide +kernel)) dX3_begin_26 (fun H locs h => ?_)
  have h : ST g A s [(ds0, .inr (3, [.ref t, .int (-1), .int 0, .ref ss, .ref st, .ref sb, .ref sg, .ref sl])), (ss, .inl (g.2 2, 10, .inl f_12)), (sb, .inl (g.2 5, 10, .inr (.inr (.inr (.inr (va_up (va_up (va_up (va_up (va_up (va_up (fun _ => none) 0 none) 1 none) 2 none) 3 none) 4 none) 5 none)))))), (t, .inr (5, [.ref tc, .ref tO, .int 0, .ref tm]))] H locs := h
  refine lv_iinc (v := 6) (lv' := [(2, .int 6), (0, .ref ds0), (1, .ref t)]) hx hb dX3_begin_27 hl (k := 0) rfl (by decide) (by decide) rfl (fun ls hl => ?_)
  refine lv_goto (tgt := 7) hx hb dX3_begin_30 (by decide) ?_
  refine lv_iload_n hx hb dX3_begin_7 rfl (lv_at hl 0 rfl) ?_
  refine lv_bipush (v := 10) hx hb dX3_begin_8 (by decide) ?_
  refine lv_icmp_ge (tgt := 33) hx hb dX3_begin_10 (by decide) (fun c_13 => absurd c_13 (by decide)) (fun c_13 => ?_)
  refine lv_aload_n hx hb dX3_begin_13 rfl (lv_at hl 1 rfl) ?_
  refine r_get X h kl3 0 3 rfl (by decide) lk_X3_19 rfl dX3_begin_14 ?_
  refine lv_iload_n hx hb dX3_begin_17 rfl (lv_at hl 0 rfl) ?_
  refine lv_iconst (v := 0) hx hb dX3_begin_18 (by decide) ?_
  refine r_zast X h 1 rfl (vp_lit (by decide +kernel)) dX3_begin_19 (fun f_14 H locs h => ?_)
  have h : ST g A s [(ds0, .inr (3, [.ref t, .int (-1), .int 0, .ref ss, .ref st, .ref sb, .ref sg, .ref sl])), (ss, .inl (g.2 2, 10, .inl f_14)), (sb, .inl (g.2 5, 10, .inr (.inr (.inr (.inr (va_up (va_up (va_up (va_up (va_up (va_up (fun _ => none) 0 none) 1 none) 2 none) 3 none) 4 none) 5 none)))))), (t, .inr (5, [.ref tc, .ref tO, .int 0, .ref tm]))] H locs := h
  refine lv_aload_n hx hb dX3_begin_20 rfl (lv_at hl 1 rfl) ?_
  refine r_get X h kl3 0 5 rfl (by decide) lk_X3_29 rfl dX3_begin_21 ?_
  refine lv_iload_n hx hb dX3_begin_24 rfl (lv_at hl 0 rfl) ?_
  refine lv_null hx hb dX3_begin_25 ?_
  refine r_aastN X h 2 5 rfl rfl (vp_lit (by decide +kernel)) dX3_begin_26 (fun H locs h => ?_)
  have h : ST g A s [(ds0, .inr (3, [.ref t, .int (-1), .int 0, .ref ss, .ref st, .ref sb, .ref sg, .ref sl])), (ss, .inl (g.2 2, 10, .inl f_14)), (sb, .inl (g.2 5, 10, .inr (.inr (.inr (.inr (va_up (va_up (va_up (va_up (va_up (va_up (va_up (fun _ => none) 0 none) 1 none) 2 none) 3 none) 4 none) 5 none) 6 none)))))), (t, .inr (5, [.ref tc, .ref tO, .int 0, .ref tm]))] H locs := h
  refine lv_iinc (v := 7) (lv' := [(2, .int 7), (0, .ref ds0), (1, .ref t)]) hx hb dX3_begin_27 hl (k := 0) rfl (by decide) (by decide) rfl (fun ls hl => ?_)
  refine lv_goto (tgt := 7) hx hb dX3_begin_30 (by decide) ?_
  refine lv_iload_n hx hb dX3_begin_7 rfl (lv_at hl 0 rfl) ?_
  refine lv_bipush (v := 10) hx hb dX3_begin_8 (by decide) ?_
  refine lv_icmp_ge (tgt := 33) hx hb dX3_begin_10 (by decide) (fun c_15 => absurd c_15 (by decide)) (fun c_15 => ?_)
  refine lv_aload_n hx hb dX3_begin_13 rfl (lv_at hl 1 rfl) ?_
  refine r_get X h kl3 0 3 rfl (by decide) lk_X3_19 rfl dX3_begin_14 ?_
  refine lv_iload_n hx hb dX3_begin_17 rfl (lv_at hl 0 rfl) ?_
  refine lv_iconst (v := 0) hx hb dX3_begin_18 (by decide) ?_
  refine r_zast X h 1 rfl (vp_lit (by decide +kernel)) dX3_begin_19 (fun f_16 H locs h => ?_)
  have h : ST g A s [(ds0, .inr (3, [.ref t, .int (-1), .int 0, .ref ss, .ref st, .ref sb, .ref sg, .ref sl])), (ss, .inl (g.2 2, 10, .inl f_16)), (sb, .inl (g.2 5, 10, .inr (.inr (.inr (.inr (va_up (va_up (va_up (va_up (va_up (va_up (va_up (fun _ => none) 0 none) 1 none) 2 none) 3 none) 4 none) 5 none) 6 none)))))), (t, .inr (5, [.ref tc, .ref tO, .int 0, .ref tm]))] H locs := h
  refine lv_aload_n hx hb dX3_begin_20 rfl (lv_at hl 1 rfl) ?_
  refine r_get X h kl3 0 5 rfl (by decide) lk_X3_29 rfl dX3_begin_21 ?_
  refine lv_iload_n hx hb dX3_begin_24 rfl (lv_at hl 0 rfl) ?_
  refine lv_null hx hb dX3_begin_25 ?_
  refine r_aastN X h 2 5 rfl rfl (vp_lit (by decide +kernel)) dX3_begin_26 (fun H locs h => ?_)
  have h : ST g A s [(ds0, .inr (3, [.ref t, .int (-1), .int 0, .ref ss, .ref st, .ref sb, .ref sg, .ref sl])), (ss, .inl (g.2 2, 10, .inl f_16)), (sb, .inl (g.2 5, 10, .inr (.inr (.inr (.inr (va_up (va_up (va_up (va_up (va_up (va_up (va_up (va_up (fun _ => none) 0 none) 1 none) 2 none) 3 none) 4 none) 5 none) 6 none) 7 none)))))), (t, .inr (5, [.ref tc, .ref tO, .int 0, .ref tm]))] H locs := h
  refine lv_iinc (v := 8) (lv' := [(2, .int 8), (0, .ref ds0), (1, .ref t)]) hx hb dX3_begin_27 hl (k := 0) rfl (by decide) (by decide) rfl (fun ls hl => ?_)
  refine lv_goto (tgt := 7) hx hb dX3_begin_30 (by decide) ?_
  refine lv_iload_n hx hb dX3_begin_7 rfl (lv_at hl 0 rfl) ?_
  refine lv_bipush (v := 10) hx hb dX3_begin_8 (by decide) ?_
  refine lv_icmp_ge (tgt := 33) hx hb dX3_begin_10 (by decide) (fun c_17 => absurd c_17 (by decide)) (fun c_17 => ?_)
  refine lv_aload_n hx hb dX3_begin_13 rfl (lv_at hl 1 rfl) ?_
  refine r_get X h kl3 0 3 rfl (by decide) lk_X3_19 rfl dX3_begin_14 ?_
  refine lv_iload_n hx hb dX3_begin_17 rfl (lv_at hl 0 rfl) ?_
  refine lv_iconst (v := 0) hx hb dX3_begin_18 (by decide) ?_
  refine r_zast X h 1 rfl (vp_lit (by decide +kernel)) dX3_begin_19 (fun f_18 H locs h => ?_)
  have h : ST g A s [(ds0, .inr (3, [.ref t, .int (-1), .int 0, .ref ss, .ref st, .ref sb, .ref sg, .ref sl])), (ss, .inl (g.2 2, 10, .inl f_18)), (sb, .inl (g.2 5, 10, .inr (.inr (.inr (.inr (va_up (va_up (va_up (va_up (va_up (va_up (va_up (va_up (fun _ => none) 0 none) 1 none) 2 none) 3 none) 4 none) 5 none) 6 none) 7 none)))))), (t, .inr (5, [.ref tc, .ref tO, .int 0, .ref tm]))] H locs := h
  refine lv_aload_n hx hb dX3_begin_20 rfl (lv_at hl 1 rfl) ?_
  refine r_get X h kl3 0 5 rfl (by decide) lk_X3_29 rfl dX3_begin_21 ?_
  refine lv_iload_n hx hb dX3_begin_24 rfl (lv_at hl 0 rfl) ?_
  refine lv_null hx hb dX3_begin_25 ?_
  refine r_aastN X h 2 5 rfl rfl (vp_lit (by decide +kernel)) dX3_begin_26 (fun H locs h => ?_)
  have h : ST g A s [(ds0, .inr (3, [.ref t, .int (-1), .int 0, .ref ss, .ref st, .ref sb, .ref sg, .ref sl])), (ss, .inl (g.2 2, 10, .inl f_18)), (sb, .inl (g.2 5, 10, .inr (.inr (.inr (.inr (va_up (va_up (va_up (va_up (va_up (va_up (va_up (va_up (va_up (fun _ => none) 0 none) 1 none) 2 none) 3 none) 4 none) 5 none) 6 none) 7 none) 8 none)))))), (t, .inr (5, [.ref tc, .ref tO, .int 0, .ref tm]))] H locs := h
  refine lv_iinc (v := 9) (lv' := [(2, .int 9), (0, .ref ds0), (1, .ref t)]) hx hb dX3_begin_27 hl (k := 0) rfl (by decide) (by decide) rfl (fun ls hl => ?_)
  refine lv_goto (tgt := 7) hx hb dX3_begin_30 (by decide) ?_
  refine lv_iload_n hx hb dX3_begin_7 rfl (lv_at hl 0 rfl) ?_
  refine lv_bipush (v := 10) hx hb dX3_begin_8 (by decide) ?_
  refine lv_icmp_ge (tgt := 33) hx hb dX3_begin_10 (by decide) (fun c_19 => absurd c_19 (by decide)) (fun c_19 => ?_)
  refine lv_aload_n hx hb dX3_begin_13 rfl (lv_at hl 1 rfl) ?_
  refine r_get X h kl3 0 3 rfl (by decide) lk_X3_19 rfl dX3_begin_14 ?_
  refine lv_iload_n hx hb dX3_begin_17 rfl (lv_at hl 0 rfl) ?_
  refine lv_iconst (v := 0) hx hb dX3_begin_18 (by decide) ?_
  refine r_zast X h 1 rfl (vp_lit (by decide +kernel)) dX3_begin_19 (fun f_20 H locs h => ?_)
  have h : ST g A s [(ds0, .inr (3, [.ref t, .int (-1), .int 0, .ref ss, .ref st, .ref sb, .ref sg, .ref sl])), (ss, .inl (g.2 2, 10, .inl f_20)), (sb, .inl (g.2 5, 10, .inr (.inr (.inr (.inr (va_up (va_up (va_up (va_up (va_up (va_up (va_up (va_up (va_up (fun _ => none) 0 none) 1 none) 2 none) 3 none) 4 none) 5 none) 6 none) 7 none) 8 none)))))), (t, .inr (5, [.ref tc, .ref tO, .int 0, .ref tm]))] H locs := h
  refine lv_aload_n hx hb dX3_begin_20 rfl (lv_at hl 1 rfl) ?_
  refine r_get X h kl3 0 5 rfl (by decide) lk_X3_29 rfl dX3_begin_21 ?_
  refine lv_iload_n hx hb dX3_begin_24 rfl (lv_at hl 0 rfl) ?_
  refine lv_null hx hb dX3_begin_25 ?_
  refine r_aastN X h 2 5 rfl rfl (vp_lit (by decide +kernel)) dX3_begin_26 (fun H locs h => ?_)
  have h : ST g A s [(ds0, .inr (3, [.ref t, .int (-1), .int 0, .ref ss, .ref st, .ref sb, .ref sg, .ref sl])), (ss, .inl (g.2 2, 10, .inl f_20)), (sb, .inl (g.2 5, 10, .inr (.inr (.inr (.inr (va_up (va_up (va_up (va_up (va_up (va_up (va_up (va_up (va_up (va_up (fun _ => none) 0 none) 1 none) 2 none) 3 none) 4 none) 5 none) 6 none) 7 none) 8 none) 9 none)))))), (t, .inr (5, [.ref tc, .ref tO, .int 0, .ref tm]))] H locs := h
  refine lv_iinc (v := 10) (lv' := [(2, .int 10), (0, .ref ds0), (1, .ref t)]) hx hb dX3_begin_27 hl (k := 0) rfl (by decide) (by decide) rfl (fun ls hl => ?_)
  refine lv_goto (tgt := 7) hx hb dX3_begin_30 (by decide) ?_
  refine lv_iload_n hx hb dX3_begin_7 rfl (lv_at hl 0 rfl) ?_
  refine lv_bipush (v := 10) hx hb dX3_begin_8 (by decide) ?_
  refine lv_icmp_ge (tgt := 33) hx hb dX3_begin_10 (by decide) (fun c_21 => ?_) (fun c_21 => absurd (by decide) c_21)
  refine lv_aload_n hx hb dX3_begin_33 rfl (lv_at hl 1 rfl) ?_
  refine lv_aload_n hx hb dX3_begin_34 rfl (lv_at hl 1 rfl) ?_
  refine lv_iconst (v := 0) hx hb dX3_begin_35 (by decide) ?_
  refine k_i X h [0, 3] [1, 2] (wr := [(ss, .inl (g.2 2, 10, .inl f_20)), (sb, .inl (g.2 5, 10, .inr (.inr (.inr (.inr (va_up (va_up (va_up (va_up (va_up (va_up (va_up (va_up (va_up (va_up (fun _ => none) 0 none) 1 none) 2 none) 3 none) 4 none) 5 none) 6 none) 7 none) 8 none) 9 none))))))]) rfl rfl rfl (by decide) 0 0 (Nat.le_of_ble_eq_true rfl) (Nat.le_of_ble_eq_true rfl) (k_runV X h (As := [.int 0]) (rest := [.ref ds0]) (c3_least l g H.size ds0 t ss st sb sg sl tc tO tm ((-1)) 0) cw_X3_51 [0, 3] rfl rfl 0 kl3 rfl rfl rfl (Nat.le_of_ble_eq_true rfl) (Nat.le_of_ble_eq_true rfl) rfl hl.1 rfl (Nat.le_of_ble_eq_true rfl) dX3_begin_36 (Nat.le_of_ble_eq_true rfl) (Nat.le_of_ble_eq_true rfl)) (fun _ H locs h => ?_)
  have h : ST g A s [(ss, .inl (g.2 2, 10, .inl f_20)), (sb, .inl (g.2 5, 10, .inr (.inr (.inr (.inr (va_up (va_up (va_up (va_up (va_up (va_up (va_up (va_up (va_up (va_up (fun _ => none) 0 none) 1 none) 2 none) 3 none) 4 none) 5 none) 6 none) 7 none) 8 none) 9 none)))))), (ds0, .inr (3, [.ref t, .int (-1), .int 0, .ref ss, .ref st, .ref sb, .ref sg, .ref sl])), (t, .inr (5, [.ref tc, .ref tO, .int 0, .ref tm]))] H locs := h
  refine k_v X h [2] [0, 1, 3] (wr := [(ss, .inl (g.2 2, 10, .inl f_20)), (sb, .inl (g.2 5, 10, .inr (.inr (.inr (.inr (va_up (va_up (va_up (va_up (va_up (va_up (va_up (va_up (va_up (va_up (fun _ => none) 0 none) 1 none) 2 none) 3 none) 4 none) 5 none) 6 none) 7 none) 8 none) 9 none)))))), (t, .inr (5, [.ref tc, .ref tO, .int 0, .ref tm]))]) rfl rfl rfl (by decide) 0 0 (Nat.le_of_ble_eq_true rfl) (Nat.le_of_ble_eq_true rfl) (k_runV X h (As := [.int (-1)]) (rest := []) (c3_comeTo l g H.size ds0 t ss st sb sg sl ((-1)) ((-1)) 0) cw_X3_55 [2] rfl rfl 2 kl3 rfl rfl rfl (Nat.le_of_ble_eq_true rfl) (Nat.le_of_ble_eq_true rfl) rfl hl.1 rfl (Nat.le_of_ble_eq_true rfl) dX3_begin_39 (Nat.le_of_ble_eq_true rfl) (Nat.le_of_ble_eq_true rfl)) (fun _ H locs h => ?_)
  have h : ST g A s [(ss, .inl (g.2 2, 10, .inl f_20)), (sb, .inl (g.2 5, 10, .inr (.inr (.inr (.inr (va_up (va_up (va_up (va_up (va_up (va_up (va_up (va_up (va_up (va_up (fun _ => none) 0 none) 1 none) 2 none) 3 none) 4 none) 5 none) 6 none) 7 none) 8 none) 9 none)))))), (t, .inr (5, [.ref tc, .ref tO, .int 0, .ref tm])), (ds0, .inr (3, [.ref t, .int (-1), .int 1, .ref ss, .ref st, .ref sb, .ref sg, .ref sl]))] H locs := h
  exact r_vret X h hAe () [3, 2] rfl rfl 0 0 (Nat.le_of_ble_eq_true rfl) (Nat.le_of_ble_eq_true rfl) dX3_begin_42

set_option maxHeartbeats 4000000 in
set_option maxRecDepth 100000 in
/-- Session.putItems of an empty template -/
theorem c3_putItems (l : Launch) (g : GE) (sz : Nat) (ds0 : Nat) (out : Nat) (t : Nat) (ss : Nat) (st : Nat) (sb : Nat) (sg : Nat) (sl : Nat) (tc : Nat) (tO : Nat) (tm : Nat) (tcb : Nat) (sp : Int32) (fr : Int32) : Met l yX3_putItems (.code yX3_putItems cX3_putItems 11 none :: WL) { frames := 1, cells := 0, slots := 0, locals := 20 } (PR g [.ref ds0, .ref out, .null, .int 0, .int 0, .int 1] [(ds0, .inr (3, [.ref t, .int sp, .int fr, .ref ss, .ref st, .ref sb, .ref sg, .ref sl])), (t, .inr (5, [.ref tc, .ref tO, .int 0, .ref tm])), (tc, .inr (2, [.int 1024, .ref tcb, .int 0]))] sz) (QV g [(ds0, .inr (3, [.ref t, .int sp, .int fr, .ref ss, .ref st, .ref sb, .ref sg, .ref sl])), (t, .inr (5, [.ref tc, .ref tO, .int 0, .ref tm])), (tc, .inr (2, [.int 1024, .ref tcb, .int 0]))] sz (fun _ : Unit => [(ds0, .inr (3, [.ref t, .int sp, .int fr, .ref ss, .ref st, .ref sb, .ref sg, .ref sl])), (t, .inr (5, [.ref tc, .ref tO, .int 0, .ref tm])), (tc, .inr (2, [.int 1024, .ref tcb, .int 0]))])) 0 0 (va_A [(ds0, .inr (3, [.ref t, .int sp, .int fr, .ref ss, .ref st, .ref sb, .ref sg, .ref sl])), (t, .inr (5, [.ref tc, .ref tO, .int 0, .ref tm])), (tc, .inr (2, [.int 1024, .ref tcb, .int 0]))] sz) := by
  refine k_start (by decide) (Nat.le_of_ble_eq_true rfl) ?_
  intro pp ee s m bb mm cd A H locs hAe X h ls hl
  have X : CX g pp s m mm cd _ cX3_putItems 11 RX3 "putItems" none A := X
  have hx := X.1
  have hb := X.2.1
  have hl : lv_has ls 11 [(0, .ref ds0), (1, .ref out), (2, .null), (3, .int 0), (4, .int 0), (5, .int 1)] := hl
  refine lv_aload_nN hx hb dX3_putItems_0 rfl (lv_at hl 2 rfl) ?_
  refine lv_ifnonnullN hx hb dX3_putItems_1 ?_
  refine lv_iconst (v := 0) hx hb dX3_putItems_4 (by decide) ?_
  refine lv_goto (tgt := 12) hx hb dX3_putItems_5 (by decide) ?_
  refine lv_istore (lv' := [(6, .int 0), (0, .ref ds0), (1, .ref out), (2, .null), (3, .int 0), (4, .int 0), (5, .int 1)]) hx hb dX3_putItems_12 hl (by decide) rfl (fun ls hl => ?_)
  refine lv_aload_nN hx hb dX3_putItems_14 rfl (lv_at hl 3 rfl) ?_
  refine lv_ifnonnullN hx hb dX3_putItems_15 ?_
  refine lv_aload_n hx hb dX3_putItems_18 rfl (lv_at hl 1 rfl) ?_
  refine r_get X h kl3 0 0 rfl (by decide) lk_X3_40 rfl dX3_putItems_19 ?_
  refine r_get X h kl5 1 0 rfl (by decide) lk_X3_146 rfl dX3_putItems_22 ?_
  refine k_i X h [2] [0, 1] (wr := [(ds0, .inr (3, [.ref t, .int sp, .int fr, .ref ss, .ref st, .ref sb, .ref sg, .ref sl])), (t, .inr (5, [.ref tc, .ref tO, .int 0, .ref tm]))]) rfl rfl rfl (by decide) 0 0 (Nat.le_of_ble_eq_true rfl) (Nat.le_of_ble_eq_true rfl) (k_runV X h (As := []) (rest := []) (c2_size l g H.size tc 1024 tcb 0) cw_X3_104 [2] rfl rfl 2 kl2 rfl rfl rfl (Nat.le_of_ble_eq_true rfl) (Nat.le_of_ble_eq_true rfl) rfl hl.1 rfl (Nat.le_of_ble_eq_true rfl) dX3_putItems_25 (Nat.le_of_ble_eq_true rfl) (Nat.le_of_ble_eq_true rfl)) (fun _ H locs h => ?_)
  have h : ST g A s [(ds0, .inr (3, [.ref t, .int sp, .int fr, .ref ss, .ref st, .ref sb, .ref sg, .ref sl])), (t, .inr (5, [.ref tc, .ref tO, .int 0, .ref tm])), (tc, .inr (2, [.int 1024, .ref tcb, .int 0]))] H locs := h
  refine lv_goto (tgt := 35) hx hb dX3_putItems_28 (by decide) ?_
  refine lv_istore (lv' := [(7, .int 0), (6, .int 0), (0, .ref ds0), (1, .ref out), (2, .null), (3, .int 0), (4, .int 0), (5, .int 1)]) hx hb dX3_putItems_35 hl (by decide) rfl (fun ls hl => ?_)
  refine lv_iload hx hb dX3_putItems_37 (lv_at hl 1 rfl) ?_
  refine lv_istore (lv' := [(8, .int 0), (7, .int 0), (6, .int 0), (0, .ref ds0), (1, .ref out), (2, .null), (3, .int 0), (4, .int 0), (5, .int 1)]) hx hb dX3_putItems_39 hl (by decide) rfl (fun ls hl => ?_)
  refine lv_iload hx hb dX3_putItems_41 (lv_at hl 0 rfl) ?_
  refine lv_iload hx hb dX3_putItems_43 (lv_at hl 1 rfl) ?_
  refine lv_icmp_ge (tgt := 119) hx hb dX3_putItems_45 (by decide) (fun c_1 => ?_) (fun c_1 => absurd (by decide) c_1)
  exact r_vret X h hAe () [0, 1, 2] rfl rfl 0 0 (Nat.le_of_ble_eq_true rfl) (Nat.le_of_ble_eq_true rfl) dX3_putItems_119

set_option maxHeartbeats 4000000 in
set_option maxRecDepth 100000 in
/-- Session.layOut of an empty template -/
theorem c3_layOut (l : Launch) (g : GE) (sz : Nat) (ds0 : Nat) (out : Nat) (t : Nat) (ss : Nat) (st : Nat) (sb : Nat) (sg : Nat) (sl : Nat) (tc : Nat) (tO : Nat) (tm : Nat) (tcb : Nat) (sp : Int32) (fr : Int32) : Met l yX3_layOut (.code yX3_layOut cX3_layOut 2 none :: WL) { frames := 2, cells := 0, slots := 0, locals := 50 } (PR g [.ref ds0, .ref out] [(ds0, .inr (3, [.ref t, .int sp, .int fr, .ref ss, .ref st, .ref sb, .ref sg, .ref sl])), (t, .inr (5, [.ref tc, .ref tO, .int 0, .ref tm])), (tc, .inr (2, [.int 1024, .ref tcb, .int 0]))] sz) (QV g [(ds0, .inr (3, [.ref t, .int sp, .int fr, .ref ss, .ref st, .ref sb, .ref sg, .ref sl])), (t, .inr (5, [.ref tc, .ref tO, .int 0, .ref tm])), (tc, .inr (2, [.int 1024, .ref tcb, .int 0]))] sz (fun _ : Unit => [(ds0, .inr (3, [.ref t, .int sp, .int fr, .ref ss, .ref st, .ref sb, .ref sg, .ref sl])), (t, .inr (5, [.ref tc, .ref tO, .int 0, .ref tm])), (tc, .inr (2, [.int 1024, .ref tcb, .int 0]))])) 0 0 (va_A [(ds0, .inr (3, [.ref t, .int sp, .int fr, .ref ss, .ref st, .ref sb, .ref sg, .ref sl])), (t, .inr (5, [.ref tc, .ref tO, .int 0, .ref tm])), (tc, .inr (2, [.int 1024, .ref tcb, .int 0]))] sz) := by
  refine k_start (by decide) (Nat.le_of_ble_eq_true rfl) ?_
  intro pp ee s m bb mm cd A H locs hAe X h ls hl
  have X : CX g pp s m mm cd _ cX3_layOut 2 RX3 "layOut" none A := X
  have hx := X.1
  have hb := X.2.1
  have hl : lv_has ls 2 [(0, .ref ds0), (1, .ref out)] := hl
  refine lv_aload_n hx hb dX3_layOut_0 rfl (lv_at hl 0 rfl) ?_
  refine lv_aload_n hx hb dX3_layOut_1 rfl (lv_at hl 1 rfl) ?_
  refine lv_null hx hb dX3_layOut_2 ?_
  refine lv_iconst (v := 0) hx hb dX3_layOut_3 (by decide) ?_
  refine lv_iconst (v := 0) hx hb dX3_layOut_4 (by decide) ?_
  refine lv_iconst (v := 1) hx hb dX3_layOut_5 (by decide) ?_
  refine k_v X h [0, 1, 2] [] (wr := []) rfl rfl rfl (by decide) 0 0 (Nat.le_of_ble_eq_true rfl) (Nat.le_of_ble_eq_true rfl) (k_runV X h (As := [.ref out, .null, .int 0, .int 0, .int 1]) (rest := []) (c3_putItems l g H.size ds0 out t ss st sb sg sl tc tO tm tcb sp fr) cw_X3_139 [0, 1, 2] rfl rfl 0 kl3 rfl rfl rfl (Nat.le_of_ble_eq_true rfl) (Nat.le_of_ble_eq_true rfl) rfl hl.1 rfl (Nat.le_of_ble_eq_true rfl) dX3_layOut_6 (Nat.le_of_ble_eq_true rfl) (Nat.le_of_ble_eq_true rfl)) (fun _ H locs h => ?_)
  have h : ST g A s [(ds0, .inr (3, [.ref t, .int sp, .int fr, .ref ss, .ref st, .ref sb, .ref sg, .ref sl])), (t, .inr (5, [.ref tc, .ref tO, .int 0, .ref tm])), (tc, .inr (2, [.int 1024, .ref tcb, .int 0]))] H locs := h
  exact r_vret X h hAe () [0, 1, 2] rfl rfl 0 0 (Nat.le_of_ble_eq_true rfl) (Nat.le_of_ble_eq_true rfl) dX3_layOut_9

set_option maxHeartbeats 4000000 in
set_option maxRecDepth 100000 in
/-- State.openSession of an empty template -/
theorem c4_open (l : Launch) (g : GE) (sz : Nat) (dO : Nat) (t : Nat) (dp : Nat) (dv : Nat) (ds : Nat) (dsh : Nat) (ds0 : Nat) (ds1 : Nat) (ds2 : Nat) (tb : Nat) (dss : Nat) (dst : Nat) (dsb : Nat) (dsg : Nat) (dsl : Nat) (tc : Nat) (tO : Nat) (tm : Nat) (fz : Nat → Int32) : Met l yX4_openSession (.code yX4_openSession cX4_openSession 3 (some .int) :: WL) { frames := 4, cells := 0, slots := 0, locals := 88 } (PR g [.ref dO, .ref t] [(dO, .inr (4, [.ref dp, .int 0, .ref dv, .ref ds, .int 0, .ref dsh])), (ds, .inl (g.2 5, 3, .inr (.inr (.inr (.inr (va_up (va_up (va_up (fun _ => none) 0 (some ds0)) 1 (some ds1)) 2 (some ds2))))))), (ds0, .inr (3, [.ref tb, .int (-1), .int 0, .ref dss, .ref dst, .ref dsb, .ref dsg, .ref dsl])), (dss, .inl (g.2 2, 10, .inl fz)), (dsb, .inl (g.2 5, 10, .inr (.inr (.inr (.inr (fun _ => none)))))), (t, .inr (5, [.ref tc, .ref tO, .int 0, .ref tm]))] sz) (QI g [(dO, .inr (4, [.ref dp, .int 0, .ref dv, .ref ds, .int 0, .ref dsh])), (ds, .inl (g.2 5, 3, .inr (.inr (.inr (.inr (va_up (va_up (va_up (fun _ => none) 0 (some ds0)) 1 (some ds1)) 2 (some ds2))))))), (ds0, .inr (3, [.ref tb, .int (-1), .int 0, .ref dss, .ref dst, .ref dsb, .ref dsg, .ref dsl])), (dss, .inl (g.2 2, 10, .inl fz)), (dsb, .inl (g.2 5, 10, .inr (.inr (.inr (.inr (fun _ => none)))))), (t, .inr (5, [.ref tc, .ref tO, .int 0, .ref tm]))] sz (-1) (fun _ : Unit => [(dO, .inr (4, [.ref dp, .int 0, .ref dv, .ref ds, .int 1, .ref dsh])), (ds, .inl (g.2 5, 3, .inr (.inr (.inr (.inr (va_up (va_up (va_up (fun _ => none) 0 (some ds0)) 1 (some ds1)) 2 (some ds2))))))), (ds0, .inr (3, [.ref t, .int (-1), .int 1, .ref dss, .ref dst, .ref dsb, .ref dsg, .ref dsl])), (t, .inr (5, [.ref tc, .ref tO, .int 0, .ref tm]))])) 0 0 (va_A [(dO, .inr (4, [.ref dp, .int 0, .ref dv, .ref ds, .int 0, .ref dsh])), (ds, .inl (g.2 5, 3, .inr (.inr (.inr (.inr (va_up (va_up (va_up (fun _ => none) 0 (some ds0)) 1 (some ds1)) 2 (some ds2))))))), (ds0, .inr (3, [.ref tb, .int (-1), .int 0, .ref dss, .ref dst, .ref dsb, .ref dsg, .ref dsl])), (dss, .inl (g.2 2, 10, .inl fz)), (dsb, .inl (g.2 5, 10, .inr (.inr (.inr (.inr (fun _ => none)))))), (t, .inr (5, [.ref tc, .ref tO, .int 0, .ref tm]))] sz) := by
  refine k_start (by decide) (Nat.le_of_ble_eq_true rfl) ?_
  intro pp ee s m bb mm cd A H locs hAe X h ls hl
  have X : CX g pp s m mm cd _ cX4_openSession 3 RX4 "openSession" (some .int) A := X
  have hx := X.1
  have hb := X.2.1
  have hl : lv_has ls 3 [(0, .ref dO), (1, .ref t)] := hl
  refine lv_aload_n hx hb dX4_openSession_0 rfl (lv_at hl 0 rfl) ?_
  refine r_get X h kl4 0 4 rfl (by decide) lk_X4_34 rfl dX4_openSession_1 ?_
  refine lv_if_lt (tgt := 19) hx hb dX4_openSession_4 (by decide) (fun c_1 => absurd c_1 (by decide)) (fun c_1 => ?_)
  refine lv_aload_n hx hb dX4_openSession_7 rfl (lv_at hl 0 rfl) ?_
  refine r_get X h kl4 0 4 rfl (by decide) lk_X4_34 rfl dX4_openSession_8 ?_
  refine lv_aload_n hx hb dX4_openSession_11 rfl (lv_at hl 0 rfl) ?_
  refine r_get X h kl4 0 3 rfl (by decide) lk_X4_30 rfl dX4_openSession_12 ?_
  refine r_alen X h 1 5 (v := 3) rfl rfl rfl dX4_openSession_15 ?_
  refine lv_icmp_lt (tgt := 21) hx hb dX4_openSession_16 (by decide) (fun c_2 => ?_) (fun c_2 => absurd (by decide) c_2)
  refine lv_aload_n hx hb dX4_openSession_21 rfl (lv_at hl 0 rfl) ?_
  refine r_get X h kl4 0 3 rfl (by decide) lk_X4_30 rfl dX4_openSession_22 ?_
  refine lv_aload_n hx hb dX4_openSession_25 rfl (lv_at hl 0 rfl) ?_
  refine r_get X h kl4 0 4 rfl (by decide) lk_X4_34 rfl dX4_openSession_26 ?_
  refine r_aald X h 1 5 (v := .ref ds0) rfl rfl (vp_lit (by decide +kernel)) rfl dX4_openSession_29 ?_
  refine lv_astore_n (lv' := [(2, .ref ds0), (0, .ref dO), (1, .ref t)]) hx hb dX4_openSession_30 rfl hl (by decide) rfl (fun ls hl => ?_)
  refine lv_aload_n hx hb dX4_openSession_31 rfl (lv_at hl 1 rfl) ?_
  refine lv_dup hx hb dX4_openSession_32 rfl ?_
  refine r_get X h kl4 0 4 rfl (by decide) lk_X4_34 rfl dX4_openSession_33 ?_
  refine lv_iconst (v := 1) hx hb dX4_openSession_36 (by decide) ?_
  refine lv_iadd hx hb dX4_openSession_37 ?_
  refine r_vi (y := 1) (by decide) ?_
  refine r_put X h kl4 0 4 (v := .int 1) rfl (by decide) lk_X4_34 rfl rfl rfl (Nat.le_of_ble_eq_true rfl) dX4_openSession_38 (fun H locs h => ?_)
  have h : ST g A s [(dO, .inr (4, [.ref dp, .int 0, .ref dv, .ref ds, .int 1, .ref dsh])), (ds, .inl (g.2 5, 3, .inr (.inr (.inr (.inr (va_up (va_up (va_up (fun _ => none) 0 (some ds0)) 1 (some ds1)) 2 (some ds2))))))), (ds0, .inr (3, [.ref tb, .int (-1), .int 0, .ref dss, .ref dst, .ref dsb, .ref dsg, .ref dsl])), (dss, .inl (g.2 2, 10, .inl fz)), (dsb, .inl (g.2 5, 10, .inr (.inr (.inr (.inr (fun _ => none)))))), (t, .inr (5, [.ref tc, .ref tO, .int 0, .ref tm]))] H locs := h
  refine lv_aload_n hx hb dX4_openSession_41 rfl (lv_at hl 0 rfl) ?_
  refine lv_aload_n hx hb dX4_openSession_42 rfl (lv_at hl 2 rfl) ?_
  refine k_v X h [2, 3, 4, 5] [0, 1] (wr := [(dO, .inr (4, [.ref dp, .int 0, .ref dv, .ref ds, .int 1, .ref dsh])), (ds, .inl (g.2 5, 3, .inr (.inr (.inr (.inr (va_up (va_up (va_up (fun _ => none) 0 (some ds0)) 1 (some ds1)) 2 (some ds2)))))))]) rfl rfl rfl (by decide) 0 0 (Nat.le_of_ble_eq_true rfl) (Nat.le_of_ble_eq_true rfl) (k_runV X h (As := [.ref t]) (rest := []) (c3_begin l g H.size ds0 t tb tc tO tm dss dst dsb dsg dsl fz) cw_X4_50 [2, 3, 4, 5] rfl rfl 2 kl3 rfl rfl rfl (Nat.le_of_ble_eq_true rfl) (Nat.le_of_ble_eq_true rfl) rfl hl.1 rfl (Nat.le_of_ble_eq_true rfl) dX4_openSession_43 (Nat.le_of_ble_eq_true rfl) (Nat.le_of_ble_eq_true rfl)) (fun _ H locs h => ?_)
  have h : ST g A s [(dO, .inr (4, [.ref dp, .int 0, .ref dv, .ref ds, .int 1, .ref dsh])), (ds, .inl (g.2 5, 3, .inr (.inr (.inr (.inr (va_up (va_up (va_up (fun _ => none) 0 (some ds0)) 1 (some ds1)) 2 (some ds2))))))), (ds0, .inr (3, [.ref t, .int (-1), .int 1, .ref dss, .ref dst, .ref dsb, .ref dsg, .ref dsl])), (t, .inr (5, [.ref tc, .ref tO, .int 0, .ref tm]))] H locs := h
  refine lv_aload_n hx hb dX4_openSession_46 rfl (lv_at hl 0 rfl) ?_
  refine r_get X h kl3 2 1 rfl (by decide) lk_X4_53 rfl dX4_openSession_47 ?_
  exact r_iret X h hAe () [0, 1, 2, 3] rfl rfl 0 0 (Nat.le_of_ble_eq_true rfl) (Nat.le_of_ble_eq_true rfl) rfl dX4_openSession_50

set_option maxHeartbeats 4000000 in
set_option maxRecDepth 100000 in
/-- State.settle(), a session of an empty template -/
theorem c4_settle1 (l : Launch) (g : GE) (sz : Nat) (dO : Nat) (dp : Nat) (dv : Nat) (ds : Nat) (dsh : Nat) (dpb : Nat) (ds0 : Nat) (ds1 : Nat) (ds2 : Nat) (dshb : Nat) (t : Nat) (dss : Nat) (dst : Nat) (dsb : Nat) (dsg : Nat) (dsl : Nat) (tc : Nat) (tO : Nat) (tm : Nat) (tcb : Nat) : Met l yX4_settle (.code yX4_settle cX4_settle 3 (some .boolean) :: WL) { frames := 3, cells := 0, slots := 0, locals := 71 } (PR g [.ref dO] [(dO, .inr (4, [.ref dp, .int 0, .ref dv, .ref ds, .int 1, .ref dsh])), (dp, .inr (2, [.int 241, .ref dpb, .int 0])), (ds, .inl (g.2 5, 3, .inr (.inr (.inr (.inr (va_up (va_up (va_up (fun _ => none) 0 (some ds0)) 1 (some ds1)) 2 (some ds2))))))), (dsh, .inr (2, [.int 241, .ref dshb, .int 0])), (ds0, .inr (3, [.ref t, .int (-1), .int 1, .ref dss, .ref dst, .ref dsb, .ref dsg, .ref dsl])), (t, .inr (5, [.ref tc, .ref tO, .int 0, .ref tm])), (tc, .inr (2, [.int 1024, .ref tcb, .int 0]))] sz) (QI g [(dO, .inr (4, [.ref dp, .int 0, .ref dv, .ref ds, .int 1, .ref dsh])), (dp, .inr (2, [.int 241, .ref dpb, .int 0])), (ds, .inl (g.2 5, 3, .inr (.inr (.inr (.inr (va_up (va_up (va_up (fun _ => none) 0 (some ds0)) 1 (some ds1)) 2 (some ds2))))))), (dsh, .inr (2, [.int 241, .ref dshb, .int 0])), (ds0, .inr (3, [.ref t, .int (-1), .int 1, .ref dss, .ref dst, .ref dsb, .ref dsg, .ref dsl])), (t, .inr (5, [.ref tc, .ref tO, .int 0, .ref tm])), (tc, .inr (2, [.int 1024, .ref tcb, .int 0]))] sz 1 (fun _ : Unit => [(dO, .inr (4, [.ref dp, .int 0, .ref dv, .ref ds, .int 1, .ref dsh])), (dp, .inr (2, [.int 241, .ref dpb, .int 0])), (ds, .inl (g.2 5, 3, .inr (.inr (.inr (.inr (va_up (va_up (va_up (fun _ => none) 0 (some ds0)) 1 (some ds1)) 2 (some ds2))))))), (dsh, .inr (2, [.int 241, .ref dshb, .int 0])), (ds0, .inr (3, [.ref t, .int (-1), .int 1, .ref dss, .ref dst, .ref dsb, .ref dsg, .ref dsl])), (t, .inr (5, [.ref tc, .ref tO, .int 0, .ref tm])), (tc, .inr (2, [.int 1024, .ref tcb, .int 0]))])) 0 0 (va_A [(dO, .inr (4, [.ref dp, .int 0, .ref dv, .ref ds, .int 1, .ref dsh])), (dp, .inr (2, [.int 241, .ref dpb, .int 0])), (ds, .inl (g.2 5, 3, .inr (.inr (.inr (.inr (va_up (va_up (va_up (fun _ => none) 0 (some ds0)) 1 (some ds1)) 2 (some ds2))))))), (dsh, .inr (2, [.int 241, .ref dshb, .int 0])), (ds0, .inr (3, [.ref t, .int (-1), .int 1, .ref dss, .ref dst, .ref dsb, .ref dsg, .ref dsl])), (t, .inr (5, [.ref tc, .ref tO, .int 0, .ref tm])), (tc, .inr (2, [.int 1024, .ref tcb, .int 0]))] sz) := by
  refine k_start (by decide) (Nat.le_of_ble_eq_true rfl) ?_
  intro pp ee s m bb mm cd A H locs hAe X h ls hl
  have X : CX g pp s m mm cd _ cX4_settle 3 RX4 "settle" (some .boolean) A := X
  have hx := X.1
  have hb := X.2.1
  have hl : lv_has ls 3 [(0, .ref dO)] := hl
  refine lv_aload_n hx hb dX4_settle_0 rfl (lv_at hl 0 rfl) ?_
  refine r_get X h kl4 0 4 rfl (by decide) lk_X4_34 rfl dX4_settle_1 ?_
  refine lv_aload_n hx hb dX4_settle_4 rfl (lv_at hl 0 rfl) ?_
  refine r_get X h kl4 0 3 rfl (by decide) lk_X4_30 rfl dX4_settle_5 ?_
  refine r_alen X h 2 5 (v := 3) rfl rfl rfl dX4_settle_8 ?_
  refine r_min X (v := 1) lk_X4_90 lk_min_s lk_min_i lk_min_c hl.1 (Nat.le_of_ble_eq_true rfl) (Nat.le_of_ble_eq_true rfl) (Nat.le_of_ble_eq_true rfl) (Nat.le_of_ble_eq_true rfl) dX4_settle_9 (by decide) ?_
  refine lv_iconst (v := 1) hx hb dX4_settle_12 (by decide) ?_
  refine lv_isub hx hb dX4_settle_13 ?_
  refine r_vi (y := 0) (by decide) ?_
  refine lv_istore_n (lv' := [(1, .int 0), (0, .ref dO)]) hx hb dX4_settle_14 rfl hl (by decide) rfl (fun ls hl => ?_)
  refine lv_iload_n hx hb dX4_settle_15 rfl (lv_at hl 0 rfl) ?_
  refine lv_if_le (tgt := 89) hx hb dX4_settle_16 (by decide) (fun c_1 => ?_) (fun c_1 => absurd (by decide) c_1)
  refine lv_aload_n hx hb dX4_settle_89 rfl (lv_at hl 1 rfl) ?_
  refine r_get X h kl4 0 5 rfl (by decide) lk_X4_37 rfl dX4_settle_90 ?_
  refine k_v X h [3] [0, 1, 2, 4, 5, 6] (wr := [(dO, .inr (4, [.ref dp, .int 0, .ref dv, .ref ds, .int 1, .ref dsh])), (dp, .inr (2, [.int 241, .ref dpb, .int 0])), (ds, .inl (g.2 5, 3, .inr (.inr (.inr (.inr (va_up (va_up (va_up (fun _ => none) 0 (some ds0)) 1 (some ds1)) 2 (some ds2))))))), (ds0, .inr (3, [.ref t, .int (-1), .int 1, .ref dss, .ref dst, .ref dsb, .ref dsg, .ref dsl])), (t, .inr (5, [.ref tc, .ref tO, .int 0, .ref tm])), (tc, .inr (2, [.int 1024, .ref tcb, .int 0]))]) rfl rfl rfl (by decide) 0 0 (Nat.le_of_ble_eq_true rfl) (Nat.le_of_ble_eq_true rfl) (k_runV X h (As := []) (rest := []) (c2_empty l g H.size dsh 241 dshb 0) cw_X4_99 [3] rfl rfl 3 kl2 rfl rfl rfl (Nat.le_of_ble_eq_true rfl) (Nat.le_of_ble_eq_true rfl) rfl hl.1 rfl (Nat.le_of_ble_eq_true rfl) dX4_settle_93 (Nat.le_of_ble_eq_true rfl) (Nat.le_of_ble_eq_true rfl)) (fun _ H locs h => ?_)
  have h : ST g A s [(dO, .inr (4, [.ref dp, .int 0, .ref dv, .ref ds, .int 1, .ref dsh])), (dp, .inr (2, [.int 241, .ref dpb, .int 0])), (ds, .inl (g.2 5, 3, .inr (.inr (.inr (.inr (va_up (va_up (va_up (fun _ => none) 0 (some ds0)) 1 (some ds1)) 2 (some ds2))))))), (ds0, .inr (3, [.ref t, .int (-1), .int 1, .ref dss, .ref dst, .ref dsb, .ref dsg, .ref dsl])), (t, .inr (5, [.ref tc, .ref tO, .int 0, .ref tm])), (tc, .inr (2, [.int 1024, .ref tcb, .int 0])), (dsh, .inr (2, [.int 241, .ref dshb, .int 0]))] H locs := h
  refine lv_aload_n hx hb dX4_settle_96 rfl (lv_at hl 1 rfl) ?_
  refine r_get X h kl4 0 5 rfl (by decide) lk_X4_37 rfl dX4_settle_97 ?_
  refine lv_aload_n hx hb dX4_settle_100 rfl (lv_at hl 1 rfl) ?_
  refine r_get X h kl4 0 0 rfl (by decide) lk_X4_14 rfl dX4_settle_101 ?_
  refine lv_iconst (v := 0) hx hb dX4_settle_104 (by decide) ?_
  refine lv_aload_n hx hb dX4_settle_105 rfl (lv_at hl 1 rfl) ?_
  refine r_get X h kl4 0 1 rfl (by decide) lk_X4_20 rfl dX4_settle_106 ?_
  refine k_v X h [6] [0, 1, 2, 3, 4, 5] (wr := [(dO, .inr (4, [.ref dp, .int 0, .ref dv, .ref ds, .int 1, .ref dsh])), (dp, .inr (2, [.int 241, .ref dpb, .int 0])), (ds, .inl (g.2 5, 3, .inr (.inr (.inr (.inr (va_up (va_up (va_up (fun _ => none) 0 (some ds0)) 1 (some ds1)) 2 (some ds2))))))), (ds0, .inr (3, [.ref t, .int (-1), .int 1, .ref dss, .ref dst, .ref dsb, .ref dsg, .ref dsl])), (t, .inr (5, [.ref tc, .ref tO, .int 0, .ref tm])), (tc, .inr (2, [.int 1024, .ref tcb, .int 0]))]) rfl rfl rfl (by decide) 0 0 (Nat.le_of_ble_eq_true rfl) (Nat.le_of_ble_eq_true rfl) (k_runV X h (As := [.ref dp, .int 0, .int 0]) (rest := []) (c2_addPart0_241 l g H.size dsh dshb dp) cw_X4_112 [6] rfl rfl 6 kl2 rfl rfl rfl (Nat.le_of_ble_eq_true rfl) (Nat.le_of_ble_eq_true rfl) rfl hl.1 rfl (Nat.le_of_ble_eq_true rfl) dX4_settle_109 (Nat.le_of_ble_eq_true rfl) (Nat.le_of_ble_eq_true rfl)) (fun _ H locs h => ?_)
  have h : ST g A s [(dO, .inr (4, [.ref dp, .int 0, .ref dv, .ref ds, .int 1, .ref dsh])), (dp, .inr (2, [.int 241, .ref dpb, .int 0])), (ds, .inl (g.2 5, 3, .inr (.inr (.inr (.inr (va_up (va_up (va_up (fun _ => none) 0 (some ds0)) 1 (some ds1)) 2 (some ds2))))))), (ds0, .inr (3, [.ref t, .int (-1), .int 1, .ref dss, .ref dst, .ref dsb, .ref dsg, .ref dsl])), (t, .inr (5, [.ref tc, .ref tO, .int 0, .ref tm])), (tc, .inr (2, [.int 1024, .ref tcb, .int 0])), (dsh, .inr (2, [.int 241, .ref dshb, .int 0]))] H locs := h
  refine lv_aload_n hx hb dX4_settle_112 rfl (lv_at hl 1 rfl) ?_
  refine r_get X h kl4 0 4 rfl (by decide) lk_X4_34 rfl dX4_settle_113 ?_
  refine lv_if_le (tgt := 132) hx hb dX4_settle_116 (by decide) (fun c_2 => absurd c_2 (by decide)) (fun c_2 => ?_)
  refine lv_aload_n hx hb dX4_settle_119 rfl (lv_at hl 1 rfl) ?_
  refine r_get X h kl4 0 3 rfl (by decide) lk_X4_30 rfl dX4_settle_120 ?_
  refine lv_iconst (v := 0) hx hb dX4_settle_123 (by decide) ?_
  refine r_aald X h 2 5 (v := .ref ds0) rfl rfl (vp_lit (by decide +kernel)) rfl dX4_settle_124 ?_
  refine lv_aload_n hx hb dX4_settle_125 rfl (lv_at hl 1 rfl) ?_
  refine r_get X h kl4 0 5 rfl (by decide) lk_X4_37 rfl dX4_settle_126 ?_
  refine k_v X h [3, 4, 5] [0, 1, 2, 6] (wr := [(dO, .inr (4, [.ref dp, .int 0, .ref dv, .ref ds, .int 1, .ref dsh])), (dp, .inr (2, [.int 241, .ref dpb, .int 0])), (ds, .inl (g.2 5, 3, .inr (.inr (.inr (.inr (va_up (va_up (va_up (fun _ => none) 0 (some ds0)) 1 (some ds1)) 2 (some ds2))))))), (dsh, .inr (2, [.int 241, .ref dshb, .int 0]))]) rfl rfl rfl (by decide) 0 0 (Nat.le_of_ble_eq_true rfl) (Nat.le_of_ble_eq_true rfl) (k_runV X h (As := [.ref dsh]) (rest := []) (c3_layOut l g H.size ds0 dsh t dss dst dsb dsg dsl tc tO tm tcb ((-1)) 1) cw_X4_102 [3, 4, 5] rfl rfl 3 kl3 rfl rfl rfl (Nat.le_of_ble_eq_true rfl) (Nat.le_of_ble_eq_true rfl) rfl hl.1 rfl (Nat.le_of_ble_eq_true rfl) dX4_settle_129 (Nat.le_of_ble_eq_true rfl) (Nat.le_of_ble_eq_true rfl)) (fun _ H locs h => ?_)
  have h : ST g A s [(dO, .inr (4, [.ref dp, .int 0, .ref dv, .ref ds, .int 1, .ref dsh])), (dp, .inr (2, [.int 241, .ref dpb, .int 0])), (ds, .inl (g.2 5, 3, .inr (.inr (.inr (.inr (va_up (va_up (va_up (fun _ => none) 0 (some ds0)) 1 (some ds1)) 2 (some ds2))))))), (dsh, .inr (2, [.int 241, .ref dshb, .int 0])), (ds0, .inr (3, [.ref t, .int (-1), .int 1, .ref dss, .ref dst, .ref dsb, .ref dsg, .ref dsl])), (t, .inr (5, [.ref tc, .ref tO, .int 0, .ref tm])), (tc, .inr (2, [.int 1024, .ref tcb, .int 0]))] H locs := h
  refine lv_aload_n hx hb dX4_settle_132 rfl (lv_at hl 1 rfl) ?_
  refine r_get X h kl4 0 5 rfl (by decide) lk_X4_37 rfl dX4_settle_133 ?_
  refine lv_aload_n hx hb dX4_settle_136 rfl (lv_at hl 1 rfl) ?_
  refine r_get X h kl4 0 0 rfl (by decide) lk_X4_14 rfl dX4_settle_137 ?_
  refine lv_aload_n hx hb dX4_settle_140 rfl (lv_at hl 1 rfl) ?_
  refine r_get X h kl4 0 1 rfl (by decide) lk_X4_20 rfl dX4_settle_141 ?_
  refine lv_aload_n hx hb dX4_settle_144 rfl (lv_at hl 1 rfl) ?_
  refine r_get X h kl4 0 0 rfl (by decide) lk_X4_14 rfl dX4_settle_145 ?_
  refine k_i X h [1] [0, 2, 3, 4, 5, 6] (wr := [(dO, .inr (4, [.ref dp, .int 0, .ref dv, .ref ds, .int 1, .ref dsh])), (ds, .inl (g.2 5, 3, .inr (.inr (.inr (.inr (va_up (va_up (va_up (fun _ => none) 0 (some ds0)) 1 (some ds1)) 2 (some ds2))))))), (dsh, .inr (2, [.int 241, .ref dshb, .int 0])), (ds0, .inr (3, [.ref t, .int (-1), .int 1, .ref dss, .ref dst, .ref dsb, .ref dsg, .ref dsl])), (t, .inr (5, [.ref tc, .ref tO, .int 0, .ref tm])), (tc, .inr (2, [.int 1024, .ref tcb, .int 0]))]) rfl rfl rfl (by decide) 0 0 (Nat.le_of_ble_eq_true rfl) (Nat.le_of_ble_eq_true rfl) (k_runV X h (As := []) (rest := [.int 0, .ref dp, .ref dsh]) (c2_size l g H.size dp 241 dpb 0) cw_X4_75 [1] rfl rfl 1 kl2 rfl rfl rfl (Nat.le_of_ble_eq_true rfl) (Nat.le_of_ble_eq_true rfl) rfl hl.1 rfl (Nat.le_of_ble_eq_true rfl) dX4_settle_148 (Nat.le_of_ble_eq_true rfl) (Nat.le_of_ble_eq_true rfl)) (fun _ H locs h => ?_)
  have h : ST g A s [(dO, .inr (4, [.ref dp, .int 0, .ref dv, .ref ds, .int 1, .ref dsh])), (ds, .inl (g.2 5, 3, .inr (.inr (.inr (.inr (va_up (va_up (va_up (fun _ => none) 0 (some ds0)) 1 (some ds1)) 2 (some ds2))))))), (dsh, .inr (2, [.int 241, .ref dshb, .int 0])), (ds0, .inr (3, [.ref t, .int (-1), .int 1, .ref dss, .ref dst, .ref dsb, .ref dsg, .ref dsl])), (t, .inr (5, [.ref tc, .ref tO, .int 0, .ref tm])), (tc, .inr (2, [.int 1024, .ref tcb, .int 0])), (dp, .inr (2, [.int 241, .ref dpb, .int 0]))] H locs := h
  refine k_v X h [2] [0, 1, 3, 4, 5, 6] (wr := [(dO, .inr (4, [.ref dp, .int 0, .ref dv, .ref ds, .int 1, .ref dsh])), (ds, .inl (g.2 5, 3, .inr (.inr (.inr (.inr (va_up (va_up (va_up (fun _ => none) 0 (some ds0)) 1 (some ds1)) 2 (some ds2))))))), (ds0, .inr (3, [.ref t, .int (-1), .int 1, .ref dss, .ref dst, .ref dsb, .ref dsg, .ref dsl])), (t, .inr (5, [.ref tc, .ref tO, .int 0, .ref tm])), (tc, .inr (2, [.int 1024, .ref tcb, .int 0])), (dp, .inr (2, [.int 241, .ref dpb, .int 0]))]) rfl rfl rfl (by decide) 0 0 (Nat.le_of_ble_eq_true rfl) (Nat.le_of_ble_eq_true rfl) (k_runV X h (As := [.ref dp, .int 0, .int 0]) (rest := []) (c2_addPart0_241 l g H.size dsh dshb dp) cw_X4_112 [2] rfl rfl 2 kl2 rfl rfl rfl (Nat.le_of_ble_eq_true rfl) (Nat.le_of_ble_eq_true rfl) rfl hl.1 rfl (Nat.le_of_ble_eq_true rfl) dX4_settle_151 (Nat.le_of_ble_eq_true rfl) (Nat.le_of_ble_eq_true rfl)) (fun _ H locs h => ?_)
  have h : ST g A s [(dO, .inr (4, [.ref dp, .int 0, .ref dv, .ref ds, .int 1, .ref dsh])), (ds, .inl (g.2 5, 3, .inr (.inr (.inr (.inr (va_up (va_up (va_up (fun _ => none) 0 (some ds0)) 1 (some ds1)) 2 (some ds2))))))), (ds0, .inr (3, [.ref t, .int (-1), .int 1, .ref dss, .ref dst, .ref dsb, .ref dsg, .ref dsl])), (t, .inr (5, [.ref tc, .ref tO, .int 0, .ref tm])), (tc, .inr (2, [.int 1024, .ref tcb, .int 0])), (dp, .inr (2, [.int 241, .ref dpb, .int 0])), (dsh, .inr (2, [.int 241, .ref dshb, .int 0]))] H locs := h
  refine lv_aload_n hx hb dX4_settle_154 rfl (lv_at hl 1 rfl) ?_
  refine r_get X h kl4 0 5 rfl (by decide) lk_X4_37 rfl dX4_settle_155 ?_
  refine k_i X h [6] [0, 1, 2, 3, 4, 5] (wr := [(dO, .inr (4, [.ref dp, .int 0, .ref dv, .ref ds, .int 1, .ref dsh])), (ds, .inl (g.2 5, 3, .inr (.inr (.inr (.inr (va_up (va_up (va_up (fun _ => none) 0 (some ds0)) 1 (some ds1)) 2 (some ds2))))))), (ds0, .inr (3, [.ref t, .int (-1), .int 1, .ref dss, .ref dst, .ref dsb, .ref dsg, .ref dsl])), (t, .inr (5, [.ref tc, .ref tO, .int 0, .ref tm])), (tc, .inr (2, [.int 1024, .ref tcb, .int 0])), (dp, .inr (2, [.int 241, .ref dpb, .int 0]))]) rfl rfl rfl (by decide) 0 0 (Nat.le_of_ble_eq_true rfl) (Nat.le_of_ble_eq_true rfl) (k_runV X h (As := []) (rest := []) (c2_size l g H.size dsh 241 dshb 0) cw_X4_75 [6] rfl rfl 6 kl2 rfl rfl rfl (Nat.le_of_ble_eq_true rfl) (Nat.le_of_ble_eq_true rfl) rfl hl.1 rfl (Nat.le_of_ble_eq_true rfl) dX4_settle_158 (Nat.le_of_ble_eq_true rfl) (Nat.le_of_ble_eq_true rfl)) (fun _ H locs h => ?_)
  have h : ST g A s [(dO, .inr (4, [.ref dp, .int 0, .ref dv, .ref ds, .int 1, .ref dsh])), (ds, .inl (g.2 5, 3, .inr (.inr (.inr (.inr (va_up (va_up (va_up (fun _ => none) 0 (some ds0)) 1 (some ds1)) 2 (some ds2))))))), (ds0, .inr (3, [.ref t, .int (-1), .int 1, .ref dss, .ref dst, .ref dsb, .ref dsg, .ref dsl])), (t, .inr (5, [.ref tc, .ref tO, .int 0, .ref tm])), (tc, .inr (2, [.int 1024, .ref tcb, .int 0])), (dp, .inr (2, [.int 241, .ref dpb, .int 0])), (dsh, .inr (2, [.int 241, .ref dshb, .int 0]))] H locs := h
  refine lv_sipush (v := 240) hx hb dX4_settle_161 (by decide) ?_
  refine lv_icmp_gt (tgt := 171) hx hb dX4_settle_164 (by decide) (fun c_3 => absurd c_3 (by decide)) (fun c_3 => ?_)
  refine lv_iconst (v := 1) hx hb dX4_settle_167 (by decide) ?_
  refine lv_goto (tgt := 172) hx hb dX4_settle_168 (by decide) ?_
  exact r_zret X h hAe () [0, 5, 1, 6, 2, 3, 4] rfl rfl 0 0 (Nat.le_of_ble_eq_true rfl) (Nat.le_of_ble_eq_true rfl) rfl rfl dX4_settle_172

set_option maxHeartbeats 4000000 in
set_option maxRecDepth 100000 in
/-- State.endUppermost(), a session of an empty template -/
theorem c4_end (l : Launch) (g : GE) (sz : Nat) (dO : Nat) (dp : Nat) (dv : Nat) (ds : Nat) (dsh : Nat) (dpb : Nat) (ds0 : Nat) (ds1 : Nat) (ds2 : Nat) (dshb : Nat) (t : Nat) (dss : Nat) (dst : Nat) (dsb : Nat) (dsg : Nat) (dsl : Nat) (tc : Nat) (tO : Nat) (tm : Nat) (tcb : Nat) : Met l yX4_endUppermost (.code yX4_endUppermost cX4_endUppermost 5 none :: WL) { frames := 4, cells := 0, slots := 0, locals := 93 } (PR g [.ref dO] [(dO, .inr (4, [.ref dp, .int 0, .ref dv, .ref ds, .int 1, .ref dsh])), (dp, .inr (2, [.int 241, .ref dpb, .int 0])), (ds, .inl (g.2 5, 3, .inr (.inr (.inr (.inr (va_up (va_up (va_up (fun _ => none) 0 (some ds0)) 1 (some ds1)) 2 (some ds2))))))), (dsh, .inr (2, [.int 241, .ref dshb, .int 0])), (ds0, .inr (3, [.ref t, .int (-1), .int 1, .ref dss, .ref dst, .ref dsb, .ref dsg, .ref dsl])), (t, .inr (5, [.ref tc, .ref tO, .int 0, .ref tm])), (tc, .inr (2, [.int 1024, .ref tcb, .int 0]))] sz) (QV g [(dO, .inr (4, [.ref dp, .int 0, .ref dv, .ref ds, .int 1, .ref dsh])), (dp, .inr (2, [.int 241, .ref dpb, .int 0])), (ds, .inl (g.2 5, 3, .inr (.inr (.inr (.inr (va_up (va_up (va_up (fun _ => none) 0 (some ds0)) 1 (some ds1)) 2 (some ds2))))))), (dsh, .inr (2, [.int 241, .ref dshb, .int 0])), (ds0, .inr (3, [.ref t, .int (-1), .int 1, .ref dss, .ref dst, .ref dsb, .ref dsg, .ref dsl])), (t, .inr (5, [.ref tc, .ref tO, .int 0, .ref tm])), (tc, .inr (2, [.int 1024, .ref tcb, .int 0]))] sz (fun _ : Unit => [(dO, .inr (4, [.ref dp, .int 0, .ref dv, .ref ds, .int 0, .ref dsh])), (dp, .inr (2, [.int 241, .ref dpb, .int 0])), (ds, .inl (g.2 5, 3, .inr (.inr (.inr (.inr (va_up (va_up (va_up (fun _ => none) 0 (some ds0)) 1 (some ds1)) 2 (some ds2))))))), (dsh, .inr (2, [.int 241, .ref dshb, .int 0])), (ds0, .inr (3, [.ref t, .int (-1), .int 1, .ref dss, .ref dst, .ref dsb, .ref dsg, .ref dsl])), (t, .inr (5, [.ref tc, .ref tO, .int 0, .ref tm])), (tc, .inr (2, [.int 1024, .ref tcb, .int 0]))])) 0 0 (va_A [(dO, .inr (4, [.ref dp, .int 0, .ref dv, .ref ds, .int 1, .ref dsh])), (dp, .inr (2, [.int 241, .ref dpb, .int 0])), (ds, .inl (g.2 5, 3, .inr (.inr (.inr (.inr (va_up (va_up (va_up (fun _ => none) 0 (some ds0)) 1 (some ds1)) 2 (some ds2))))))), (dsh, .inr (2, [.int 241, .ref dshb, .int 0])), (ds0, .inr (3, [.ref t, .int (-1), .int 1, .ref dss, .ref dst, .ref dsb, .ref dsg, .ref dsl])), (t, .inr (5, [.ref tc, .ref tO, .int 0, .ref tm])), (tc, .inr (2, [.int 1024, .ref tcb, .int 0]))] sz) := by
  refine k_start (by decide) (Nat.le_of_ble_eq_true rfl) ?_
  intro pp ee s m bb mm cd A H locs hAe X h ls hl
  have X : CX g pp s m mm cd _ cX4_endUppermost 5 RX4 "endUppermost" none A := X
  have hx := X.1
  have hb := X.2.1
  have hl : lv_has ls 5 [(0, .ref dO)] := hl
  refine lv_aload_n hx hb dX4_endUppermost_0 rfl (lv_at hl 0 rfl) ?_
  refine k_q X h [0, 2] [1, 3, 4, 5, 6] (wr := [(dp, .inr (2, [.int 241, .ref dpb, .int 0])), (dsh, .inr (2, [.int 241, .ref dshb, .int 0])), (ds0, .inr (3, [.ref t, .int (-1), .int 1, .ref dss, .ref dst, .ref dsb, .ref dsg, .ref dsl])), (t, .inr (5, [.ref tc, .ref tO, .int 0, .ref tm])), (tc, .inr (2, [.int 1024, .ref tcb, .int 0]))]) rfl rfl rfl (by decide) 0 0 (Nat.le_of_ble_eq_true rfl) (Nat.le_of_ble_eq_true rfl) (k_runV X h (As := []) (rest := []) (c4_upp1 l g H.size dO dp dv ds dsh ds0 ds1 ds2) cw_X4_56 [0, 2] rfl rfl 0 kl4 rfl rfl rfl (Nat.le_of_ble_eq_true rfl) (Nat.le_of_ble_eq_true rfl) rfl hl.1 rfl (Nat.le_of_ble_eq_true rfl) dX4_endUppermost_1 (Nat.le_of_ble_eq_true rfl) (Nat.le_of_ble_eq_true rfl)) (fun _ H locs h => ?_)
  have h : ST g A s [(dp, .inr (2, [.int 241, .ref dpb, .int 0])), (dsh, .inr (2, [.int 241, .ref dshb, .int 0])), (ds0, .inr (3, [.ref t, .int (-1), .int 1, .ref dss, .ref dst, .ref dsb, .ref dsg, .ref dsl])), (t, .inr (5, [.ref tc, .ref tO, .int 0, .ref tm])), (tc, .inr (2, [.int 1024, .ref tcb, .int 0])), (dO, .inr (4, [.ref dp, .int 0, .ref dv, .ref ds, .int 1, .ref dsh])), (ds, .inl (g.2 5, 3, .inr (.inr (.inr (.inr (va_up (va_up (va_up (fun _ => none) 0 (some ds0)) 1 (some ds1)) 2 (some ds2)))))))] H locs := h
  refine W.eq (g2 := F0 m 4 ls [.ref ds0]) rfl ?_
  refine lv_astore_n (lv' := [(1, .ref ds0), (0, .ref dO)]) hx hb dX4_endUppermost_4 rfl hl (by decide) rfl (fun ls hl => ?_)
  refine lv_aload_n hx hb dX4_endUppermost_5 rfl (lv_at hl 0 rfl) ?_
  refine lv_ifnull hx hb dX4_endUppermost_6 ?_
  refine lv_aload_n hx hb dX4_endUppermost_9 rfl (lv_at hl 1 rfl) ?_
  refine k_i X h [5, 0, 6, 1, 2, 3, 4] [] (wr := []) rfl rfl rfl (by decide) 0 0 (Nat.le_of_ble_eq_true rfl) (Nat.le_of_ble_eq_true rfl) (k_runV X h (As := []) (rest := []) (c4_settle1 l g H.size dO dp dv ds dsh dpb ds0 ds1 ds2 dshb t dss dst dsb dsg dsl tc tO tm tcb) cw_X4_63 [5, 0, 6, 1, 2, 3, 4] rfl rfl 5 kl4 rfl rfl rfl (Nat.le_of_ble_eq_true rfl) (Nat.le_of_ble_eq_true rfl) rfl hl.1 rfl (Nat.le_of_ble_eq_true rfl) dX4_endUppermost_10 (Nat.le_of_ble_eq_true rfl) (Nat.le_of_ble_eq_true rfl)) (fun _ H locs h => ?_)
  have h : ST g A s [(dO, .inr (4, [.ref dp, .int 0, .ref dv, .ref ds, .int 1, .ref dsh])), (dp, .inr (2, [.int 241, .ref dpb, .int 0])), (ds, .inl (g.2 5, 3, .inr (.inr (.inr (.inr (va_up (va_up (va_up (fun _ => none) 0 (some ds0)) 1 (some ds1)) 2 (some ds2))))))), (dsh, .inr (2, [.int 241, .ref dshb, .int 0])), (ds0, .inr (3, [.ref t, .int (-1), .int 1, .ref dss, .ref dst, .ref dsb, .ref dsg, .ref dsl])), (t, .inr (5, [.ref tc, .ref tO, .int 0, .ref tm])), (tc, .inr (2, [.int 1024, .ref tcb, .int 0]))] H locs := h
  refine lv_if_ne (tgt := 17) hx hb dX4_endUppermost_13 (by decide) (fun c_1 => ?_) (fun c_1 => absurd c_1 (by decide))
  refine lv_aload_n hx hb dX4_endUppermost_17 rfl (lv_at hl 1 rfl) ?_
  refine lv_dup hx hb dX4_endUppermost_18 rfl ?_
  refine r_get X h kl4 0 4 rfl (by decide) lk_X4_34 rfl dX4_endUppermost_19 ?_
  refine lv_iconst (v := 1) hx hb dX4_endUppermost_22 (by decide) ?_
  refine lv_isub hx hb dX4_endUppermost_23 ?_
  refine r_vi (y := 0) (by decide) ?_
  refine r_put X h kl4 0 4 (v := .int 0) rfl (by decide) lk_X4_34 rfl rfl rfl (Nat.le_of_ble_eq_true rfl) dX4_endUppermost_24 (fun H locs h => ?_)
  have h : ST g A s [(dO, .inr (4, [.ref dp, .int 0, .ref dv, .ref ds, .int 0, .ref dsh])), (dp, .inr (2, [.int 241, .ref dpb, .int 0])), (ds, .inl (g.2 5, 3, .inr (.inr (.inr (.inr (va_up (va_up (va_up (fun _ => none) 0 (some ds0)) 1 (some ds1)) 2 (some ds2))))))), (dsh, .inr (2, [.int 241, .ref dshb, .int 0])), (ds0, .inr (3, [.ref t, .int (-1), .int 1, .ref dss, .ref dst, .ref dsb, .ref dsg, .ref dsl])), (t, .inr (5, [.ref tc, .ref tO, .int 0, .ref tm])), (tc, .inr (2, [.int 1024, .ref tcb, .int 0]))] H locs := h
  refine lv_aload_n hx hb dX4_endUppermost_27 rfl (lv_at hl 1 rfl) ?_
  refine k_q X h [0] [1, 2, 3, 4, 5, 6] (wr := [(dp, .inr (2, [.int 241, .ref dpb, .int 0])), (ds, .inl (g.2 5, 3, .inr (.inr (.inr (.inr (va_up (va_up (va_up (fun _ => none) 0 (some ds0)) 1 (some ds1)) 2 (some ds2))))))), (dsh, .inr (2, [.int 241, .ref dshb, .int 0])), (ds0, .inr (3, [.ref t, .int (-1), .int 1, .ref dss, .ref dst, .ref dsb, .ref dsg, .ref dsl])), (t, .inr (5, [.ref tc, .ref tO, .int 0, .ref tm])), (tc, .inr (2, [.int 1024, .ref tcb, .int 0]))]) rfl rfl rfl (by decide) 0 0 (Nat.le_of_ble_eq_true rfl) (Nat.le_of_ble_eq_true rfl) (k_runV X h (As := []) (rest := []) (c4_upp0 l g H.size dO dp dv ds dsh 0) cw_X4_56 [0] rfl rfl 0 kl4 rfl rfl rfl (Nat.le_of_ble_eq_true rfl) (Nat.le_of_ble_eq_true rfl) rfl hl.1 rfl (Nat.le_of_ble_eq_true rfl) dX4_endUppermost_28 (Nat.le_of_ble_eq_true rfl) (Nat.le_of_ble_eq_true rfl)) (fun _ H locs h => ?_)
  have h : ST g A s [(dp, .inr (2, [.int 241, .ref dpb, .int 0])), (ds, .inl (g.2 5, 3, .inr (.inr (.inr (.inr (va_up (va_up (va_up (fun _ => none) 0 (some ds0)) 1 (some ds1)) 2 (some ds2))))))), (dsh, .inr (2, [.int 241, .ref dshb, .int 0])), (ds0, .inr (3, [.ref t, .int (-1), .int 1, .ref dss, .ref dst, .ref dsb, .ref dsg, .ref dsl])), (t, .inr (5, [.ref tc, .ref tO, .int 0, .ref tm])), (tc, .inr (2, [.int 1024, .ref tcb, .int 0])), (dO, .inr (4, [.ref dp, .int 0, .ref dv, .ref ds, .int 0, .ref dsh]))] H locs := h
  refine W.eq (g2 := F0 m 31 ls [.null]) rfl ?_
  refine lv_astore_nN (lv' := [(2, .null), (1, .ref ds0), (0, .ref dO)]) hx hb dX4_endUppermost_31 rfl hl (by decide) rfl (fun ls hl => ?_)
  refine lv_aload_nN hx hb dX4_endUppermost_32 rfl (lv_at hl 0 rfl) ?_
  refine lv_ifnullN (tgt := 42) hx hb dX4_endUppermost_33 (by decide) ?_
  refine lv_aload_n hx hb dX4_endUppermost_42 rfl (lv_at hl 1 rfl) ?_
  refine lv_iconst (v := 0) hx hb dX4_endUppermost_43 (by decide) ?_
  refine lv_iconst (v := 0) hx hb dX4_endUppermost_44 (by decide) ?_
  refine k_q X h [3, 4] [0, 1, 2, 5, 6] (wr := [(dp, .inr (2, [.int 241, .ref dpb, .int 0])), (ds, .inl (g.2 5, 3, .inr (.inr (.inr (.inr (va_up (va_up (va_up (fun _ => none) 0 (some ds0)) 1 (some ds1)) 2 (some ds2))))))), (dsh, .inr (2, [.int 241, .ref dshb, .int 0])), (tc, .inr (2, [.int 1024, .ref tcb, .int 0])), (dO, .inr (4, [.ref dp, .int 0, .ref dv, .ref ds, .int 0, .ref dsh]))]) rfl rfl rfl (by decide) 0 0 (Nat.le_of_ble_eq_true rfl) (Nat.le_of_ble_eq_true rfl) (k_runV X h (As := [.int 0, .int 0]) (rest := []) (c3_find l g H.size ds0 t dss dst dsb dsg dsl tc tO tm ((-1)) 1) cw_X4_71 [3, 4] rfl rfl 3 kl3 rfl rfl rfl (Nat.le_of_ble_eq_true rfl) (Nat.le_of_ble_eq_true rfl) rfl hl.1 rfl (Nat.le_of_ble_eq_true rfl) dX4_endUppermost_45 (Nat.le_of_ble_eq_true rfl) (Nat.le_of_ble_eq_true rfl)) (fun _ H locs h => ?_)
  have h : ST g A s [(dp, .inr (2, [.int 241, .ref dpb, .int 0])), (ds, .inl (g.2 5, 3, .inr (.inr (.inr (.inr (va_up (va_up (va_up (fun _ => none) 0 (some ds0)) 1 (some ds1)) 2 (some ds2))))))), (dsh, .inr (2, [.int 241, .ref dshb, .int 0])), (tc, .inr (2, [.int 1024, .ref tcb, .int 0])), (dO, .inr (4, [.ref dp, .int 0, .ref dv, .ref ds, .int 0, .ref dsh])), (ds0, .inr (3, [.ref t, .int (-1), .int 1, .ref dss, .ref dst, .ref dsb, .ref dsg, .ref dsl])), (t, .inr (5, [.ref tc, .ref tO, .int 0, .ref tm]))] H locs := h
  refine W.eq (g2 := F0 m 48 ls [.null]) rfl ?_
  refine lv_astore_nN (lv' := [(3, .null), (2, .null), (1, .ref ds0), (0, .ref dO)]) hx hb dX4_endUppermost_48 rfl hl (by decide) rfl (fun ls hl => ?_)
  refine lv_aload_n hx hb dX4_endUppermost_49 rfl (lv_at hl 3 rfl) ?_
  refine r_get X h kl4 4 1 rfl (by decide) lk_X4_20 rfl dX4_endUppermost_50 ?_
  refine lv_aload_n hx hb dX4_endUppermost_53 rfl (lv_at hl 3 rfl) ?_
  refine r_get X h kl4 4 5 rfl (by decide) lk_X4_37 rfl dX4_endUppermost_54 ?_
  refine k_i X h [2] [0, 1, 3, 4, 5, 6] (wr := [(dp, .inr (2, [.int 241, .ref dpb, .int 0])), (ds, .inl (g.2 5, 3, .inr (.inr (.inr (.inr (va_up (va_up (va_up (fun _ => none) 0 (some ds0)) 1 (some ds1)) 2 (some ds2))))))), (tc, .inr (2, [.int 1024, .ref tcb, .int 0])), (dO, .inr (4, [.ref dp, .int 0, .ref dv, .ref ds, .int 0, .ref dsh])), (ds0, .inr (3, [.ref t, .int (-1), .int 1, .ref dss, .ref dst, .ref dsb, .ref dsg, .ref dsl])), (t, .inr (5, [.ref tc, .ref tO, .int 0, .ref tm]))]) rfl rfl rfl (by decide) 0 0 (Nat.le_of_ble_eq_true rfl) (Nat.le_of_ble_eq_true rfl) (k_runV X h (As := []) (rest := [.int 0]) (c2_size l g H.size dsh 241 dshb 0) cw_X4_75 [2] rfl rfl 2 kl2 rfl rfl rfl (Nat.le_of_ble_eq_true rfl) (Nat.le_of_ble_eq_true rfl) rfl hl.1 rfl (Nat.le_of_ble_eq_true rfl) dX4_endUppermost_57 (Nat.le_of_ble_eq_true rfl) (Nat.le_of_ble_eq_true rfl)) (fun _ H locs h => ?_)
  have h : ST g A s [(dp, .inr (2, [.int 241, .ref dpb, .int 0])), (ds, .inl (g.2 5, 3, .inr (.inr (.inr (.inr (va_up (va_up (va_up (fun _ => none) 0 (some ds0)) 1 (some ds1)) 2 (some ds2))))))), (tc, .inr (2, [.int 1024, .ref tcb, .int 0])), (dO, .inr (4, [.ref dp, .int 0, .ref dv, .ref ds, .int 0, .ref dsh])), (ds0, .inr (3, [.ref t, .int (-1), .int 1, .ref dss, .ref dst, .ref dsb, .ref dsg, .ref dsl])), (t, .inr (5, [.ref tc, .ref tO, .int 0, .ref tm])), (dsh, .inr (2, [.int 241, .ref dshb, .int 0]))] H locs := h
  refine lv_iadd hx hb dX4_endUppermost_60 ?_
  refine r_vi (y := 0) (by decide) ?_
  refine lv_aload_n hx hb dX4_endUppermost_61 rfl (lv_at hl 3 rfl) ?_
  refine r_get X h kl4 3 0 rfl (by decide) lk_X4_14 rfl dX4_endUppermost_62 ?_
  refine k_i X h [0] [1, 2, 3, 4, 5, 6] (wr := [(ds, .inl (g.2 5, 3, .inr (.inr (.inr (.inr (va_up (va_up (va_up (fun _ => none) 0 (some ds0)) 1 (some ds1)) 2 (some ds2))))))), (tc, .inr (2, [.int 1024, .ref tcb, .int 0])), (dO, .inr (4, [.ref dp, .int 0, .ref dv, .ref ds, .int 0, .ref dsh])), (ds0, .inr (3, [.ref t, .int (-1), .int 1, .ref dss, .ref dst, .ref dsb, .ref dsg, .ref dsl])), (t, .inr (5, [.ref tc, .ref tO, .int 0, .ref tm])), (dsh, .inr (2, [.int 241, .ref dshb, .int 0]))]) rfl rfl rfl (by decide) 0 0 (Nat.le_of_ble_eq_true rfl) (Nat.le_of_ble_eq_true rfl) (k_runV X h (As := []) (rest := [.int 0]) (c2_size l g H.size dp 241 dpb 0) cw_X4_75 [0] rfl rfl 0 kl2 rfl rfl rfl (Nat.le_of_ble_eq_true rfl) (Nat.le_of_ble_eq_true rfl) rfl hl.1 rfl (Nat.le_of_ble_eq_true rfl) dX4_endUppermost_65 (Nat.le_of_ble_eq_true rfl) (Nat.le_of_ble_eq_true rfl)) (fun _ H locs h => ?_)
  have h : ST g A s [(ds, .inl (g.2 5, 3, .inr (.inr (.inr (.inr (va_up (va_up (va_up (fun _ => none) 0 (some ds0)) 1 (some ds1)) 2 (some ds2))))))), (tc, .inr (2, [.int 1024, .ref tcb, .int 0])), (dO, .inr (4, [.ref dp, .int 0, .ref dv, .ref ds, .int 0, .ref dsh])), (ds0, .inr (3, [.ref t, .int (-1), .int 1, .ref dss, .ref dst, .ref dsb, .ref dsg, .ref dsl])), (t, .inr (5, [.ref tc, .ref tO, .int 0, .ref tm])), (dsh, .inr (2, [.int 241, .ref dshb, .int 0])), (dp, .inr (2, [.int 241, .ref dpb, .int 0]))] H locs := h
  refine lv_isub hx hb dX4_endUppermost_68 ?_
  refine r_vi (y := 0) (by decide) ?_
  refine lv_istore (lv' := [(4, .int 0), (3, .null), (2, .null), (1, .ref ds0), (0, .ref dO)]) hx hb dX4_endUppermost_69 hl (by decide) rfl (fun ls hl => ?_)
  refine lv_aload_n hx hb dX4_endUppermost_71 rfl (lv_at hl 4 rfl) ?_
  refine lv_aload_nN hx hb dX4_endUppermost_72 rfl (lv_at hl 1 rfl) ?_
  refine lv_ifnonnullN hx hb dX4_endUppermost_73 ?_
  refine lv_iload hx hb dX4_endUppermost_76 (lv_at hl 0 rfl) ?_
  refine lv_goto (tgt := 86) hx hb dX4_endUppermost_78 (by decide) ?_
  refine r_put X h kl4 2 1 (v := .int 0) rfl (by decide) lk_X4_20 rfl rfl rfl (Nat.le_of_ble_eq_true rfl) dX4_endUppermost_86 (fun H locs h => ?_)
  have h : ST g A s [(ds, .inl (g.2 5, 3, .inr (.inr (.inr (.inr (va_up (va_up (va_up (fun _ => none) 0 (some ds0)) 1 (some ds1)) 2 (some ds2))))))), (tc, .inr (2, [.int 1024, .ref tcb, .int 0])), (dO, .inr (4, [.ref dp, .int 0, .ref dv, .ref ds, .int 0, .ref dsh])), (ds0, .inr (3, [.ref t, .int (-1), .int 1, .ref dss, .ref dst, .ref dsb, .ref dsg, .ref dsl])), (t, .inr (5, [.ref tc, .ref tO, .int 0, .ref tm])), (dsh, .inr (2, [.int 241, .ref dshb, .int 0])), (dp, .inr (2, [.int 241, .ref dpb, .int 0]))] H locs := h
  refine lv_aload_n hx hb dX4_endUppermost_89 rfl (lv_at hl 4 rfl) ?_
  refine r_get X h kl4 2 0 rfl (by decide) lk_X4_14 rfl dX4_endUppermost_90 ?_
  refine lv_aload_n hx hb dX4_endUppermost_93 rfl (lv_at hl 4 rfl) ?_
  refine r_get X h kl4 2 5 rfl (by decide) lk_X4_37 rfl dX4_endUppermost_94 ?_
  refine k_v X h [6, 5] [0, 1, 2, 3, 4] (wr := [(ds, .inl (g.2 5, 3, .inr (.inr (.inr (.inr (va_up (va_up (va_up (fun _ => none) 0 (some ds0)) 1 (some ds1)) 2 (some ds2))))))), (tc, .inr (2, [.int 1024, .ref tcb, .int 0])), (dO, .inr (4, [.ref dp, .int 0, .ref dv, .ref ds, .int 0, .ref dsh])), (ds0, .inr (3, [.ref t, .int (-1), .int 1, .ref dss, .ref dst, .ref dsb, .ref dsg, .ref dsl])), (t, .inr (5, [.ref tc, .ref tO, .int 0, .ref tm]))]) rfl rfl rfl (by decide) 0 0 (Nat.le_of_ble_eq_true rfl) (Nat.le_of_ble_eq_true rfl) (k_runV X h (As := [.ref dsh]) (rest := []) (c2_copyOf_241 l g H.size dp dpb 0 dsh 241 dshb) cw_X4_43 [6, 5] rfl rfl 6 kl2 rfl rfl rfl (Nat.le_of_ble_eq_true rfl) (Nat.le_of_ble_eq_true rfl) rfl hl.1 rfl (Nat.le_of_ble_eq_true rfl) dX4_endUppermost_97 (Nat.le_of_ble_eq_true rfl) (Nat.le_of_ble_eq_true rfl)) (fun _ H locs h => ?_)
  have h : ST g A s [(ds, .inl (g.2 5, 3, .inr (.inr (.inr (.inr (va_up (va_up (va_up (fun _ => none) 0 (some ds0)) 1 (some ds1)) 2 (some ds2))))))), (tc, .inr (2, [.int 1024, .ref tcb, .int 0])), (dO, .inr (4, [.ref dp, .int 0, .ref dv, .ref ds, .int 0, .ref dsh])), (ds0, .inr (3, [.ref t, .int (-1), .int 1, .ref dss, .ref dst, .ref dsb, .ref dsg, .ref dsl])), (t, .inr (5, [.ref tc, .ref tO, .int 0, .ref tm])), (dp, .inr (2, [.int 241, .ref dpb, .int 0])), (dsh, .inr (2, [.int 241, .ref dshb, .int 0]))] H locs := h
  exact r_vret X h hAe () [2, 5, 0, 6, 3, 4, 1] rfl rfl 0 0 (Nat.le_of_ble_eq_true rfl) (Nat.le_of_ble_eq_true rfl) dX4_endUppermost_100

set_option maxHeartbeats 4000000 in
set_option maxRecDepth 100000 in
/-- Reader(text, variables) -/
theorem c1_init (l : Launch) (g : GE) (sz : Nat) (h0 : Nat) (tx : Nat) (vr : Nat) : Met l yX1_init (.code yX1_init cX1_init 3 none :: WL) { frames := 3, cells := 5, slots := 33, locals := 53 } (PR g [.ref h0, .ref tx, .ref vr] [(h0, .inr (1, [.null, .null, .null, .int 0, .int 0, .int 0, .int 0, .null, .null, .int 0]))] sz) (QV g [(h0, .inr (1, [.null, .null, .null, .int 0, .int 0, .int 0, .int 0, .null, .null, .int 0]))] sz (fun u : Nat × Nat × Nat × Nat × Nat => [(h0, .inr (1, [.ref u.1, .ref tx, .ref vr, .int 0, .int 0, .int (-1), .int 0, .null, .null, .int 0])), (u.1, .inr (5, [.ref u.2.1, .ref u.2.2.1, .int 0, .ref u.2.2.2.1])), (u.2.1, .inr (2, [.int 1024, .ref u.2.2.2.2, .int 0]))])) 5 33 (va_A [(h0, .inr (1, [.null, .null, .null, .int 0, .int 0, .int 0, .int 0, .null, .null, .int 0]))] sz) := by
  refine k_start (by decide) (Nat.le_of_ble_eq_true rfl) ?_
  intro pp ee s m bb mm cd A H locs hAe X h ls hl
  have X : CX g pp s m mm cd _ cX1_init 3 RX1 "<init>" none A := X
  have hx := X.1
  have hb := X.2.1
  have hl : lv_has ls 3 [(0, .ref h0), (1, .ref tx), (2, .ref vr)] := hl
  refine lv_aload_n hx hb dX1_init_0 rfl (lv_at hl 0 rfl) ?_
  refine r_objInit X lk_X1_3 lk_obj_i lk_obj_c hl.1 dX1_init_1 (Nat.le_of_ble_eq_true rfl) (Nat.le_of_ble_eq_true rfl) ?_
  refine lv_aload_n hx hb dX1_init_4 rfl (lv_at hl 0 rfl) ?_
  refine r_new X h kl5 1 4 lk_X1_9 lk_inst5 lk_ini5 df5 (Nat.le_of_ble_eq_true rfl) (Nat.le_of_ble_eq_true rfl) (Nat.le_of_ble_eq_true rfl) (Nat.le_of_ble_eq_true rfl) dX1_init_5 (fun q_1 H h => ?_)
  have h : ST g A s [(h0, .inr (1, [.null, .null, .null, .int 0, .int 0, .int 0, .int 0, .null, .null, .int 0])), (q_1, .inr (5, [.null, .null, .int 0, .null]))] H locs := h
  refine lv_dup hx hb dX1_init_8 rfl ?_
  refine k_v X h [1] [0] (wr := [(h0, .inr (1, [.null, .null, .null, .int 0, .int 0, .int 0, .int 0, .null, .null, .int 0]))]) rfl rfl rfl (by decide) 5 33 (Nat.le_of_ble_eq_true rfl) (Nat.le_of_ble_eq_true rfl) (k_runN X h (As := []) (rest := [.ref q_1, .ref h0]) X.2.2.2.2.2.1.2.2.2 (c5_init l g H.size q_1) cw_X1_11 [1] rfl rfl rfl rfl (Nat.le_of_ble_eq_true rfl) (Nat.le_of_ble_eq_true rfl) rfl hl.1 rfl (Nat.le_of_ble_eq_true rfl) dX1_init_9 (Nat.le_of_ble_eq_true rfl) (Nat.le_of_ble_eq_true rfl)) (fun u9 H locs h => ?_)
  obtain ⟨u_2, u_3, u_4, u_5⟩ := u9
  have h : ST g A s [(h0, .inr (1, [.null, .null, .null, .int 0, .int 0, .int 0, .int 0, .null, .null, .int 0])), (q_1, .inr (5, [.ref u_2, .ref u_3, .int 0, .ref u_4])), (u_2, .inr (2, [.int 1024, .ref u_5, .int 0]))] H locs := h
  refine r_putF X h kl1 0 0 (v := .ref q_1) rfl (by decide) lk_X1_12 rfl rfl rfl rfl (Nat.le_of_ble_eq_true rfl) dX1_init_12 (fun H locs h => ?_)
  have h : ST g A s [(h0, .inr (1, [.ref q_1, .null, .null, .int 0, .int 0, .int 0, .int 0, .null, .null, .int 0])), (q_1, .inr (5, [.ref u_2, .ref u_3, .int 0, .ref u_4])), (u_2, .inr (2, [.int 1024, .ref u_5, .int 0]))] H locs := h
  refine lv_aload_n hx hb dX1_init_15 rfl (lv_at hl 0 rfl) ?_
  refine lv_iconst (v := 0) hx hb dX1_init_16 (by decide) ?_
  refine r_put X h kl1 0 3 (v := .int 0) rfl (by decide) lk_X1_18 rfl rfl rfl (Nat.le_of_ble_eq_true rfl) dX1_init_17 (fun H locs h => ?_)
  have h : ST g A s [(h0, .inr (1, [.ref q_1, .null, .null, .int 0, .int 0, .int 0, .int 0, .null, .null, .int 0])), (q_1, .inr (5, [.ref u_2, .ref u_3, .int 0, .ref u_4])), (u_2, .inr (2, [.int 1024, .ref u_5, .int 0]))] H locs := h
  refine lv_aload_n hx hb dX1_init_20 rfl (lv_at hl 0 rfl) ?_
  refine lv_iconst (v := 0) hx hb dX1_init_21 (by decide) ?_
  refine r_put X h kl1 0 4 (v := .int 0) rfl (by decide) lk_X1_22 rfl rfl rfl (Nat.le_of_ble_eq_true rfl) dX1_init_22 (fun H locs h => ?_)
  have h : ST g A s [(h0, .inr (1, [.ref q_1, .null, .null, .int 0, .int 0, .int 0, .int 0, .null, .null, .int 0])), (q_1, .inr (5, [.ref u_2, .ref u_3, .int 0, .ref u_4])), (u_2, .inr (2, [.int 1024, .ref u_5, .int 0]))] H locs := h
  refine lv_aload_n hx hb dX1_init_25 rfl (lv_at hl 0 rfl) ?_
  refine lv_iconst (v := (-1)) hx hb dX1_init_26 (by decide) ?_
  refine r_put X h kl1 0 5 (v := .int (-1)) rfl (by decide) lk_X1_25 rfl rfl rfl (Nat.le_of_ble_eq_true rfl) dX1_init_27 (fun H locs h => ?_)
  have h : ST g A s [(h0, .inr (1, [.ref q_1, .null, .null, .int 0, .int 0, .int (-1), .int 0, .null, .null, .int 0])), (q_1, .inr (5, [.ref u_2, .ref u_3, .int 0, .ref u_4])), (u_2, .inr (2, [.int 1024, .ref u_5, .int 0]))] H locs := h
  refine lv_aload_n hx hb dX1_init_30 rfl (lv_at hl 0 rfl) ?_
  refine lv_iconst (v := 0) hx hb dX1_init_31 (by decide) ?_
  refine r_put X h kl1 0 6 (v := .int 0) rfl (by decide) lk_X1_28 rfl rfl rfl (Nat.le_of_ble_eq_true rfl) dX1_init_32 (fun H locs h => ?_)
  have h : ST g A s [(h0, .inr (1, [.ref q_1, .null, .null, .int 0, .int 0, .int (-1), .int 0, .null, .null, .int 0])), (q_1, .inr (5, [.ref u_2, .ref u_3, .int 0, .ref u_4])), (u_2, .inr (2, [.int 1024, .ref u_5, .int 0]))] H locs := h
  refine lv_aload_n hx hb dX1_init_35 rfl (lv_at hl 0 rfl) ?_
  refine lv_null hx hb dX1_init_36 ?_
  refine r_put X h kl1 0 7 (v := .null) rfl (by decide) lk_X1_31 rfl rfl rfl (Nat.le_of_ble_eq_true rfl) dX1_init_37 (fun H locs h => ?_)
  have h : ST g A s [(h0, .inr (1, [.ref q_1, .null, .null, .int 0, .int 0, .int (-1), .int 0, .null, .null, .int 0])), (q_1, .inr (5, [.ref u_2, .ref u_3, .int 0, .ref u_4])), (u_2, .inr (2, [.int 1024, .ref u_5, .int 0]))] H locs := h
  refine lv_aload_n hx hb dX1_init_40 rfl (lv_at hl 0 rfl) ?_
  refine lv_null hx hb dX1_init_41 ?_
  refine r_put X h kl1 0 8 (v := .null) rfl (by decide) lk_X1_35 rfl rfl rfl (Nat.le_of_ble_eq_true rfl) dX1_init_42 (fun H locs h => ?_)
  have h : ST g A s [(h0, .inr (1, [.ref q_1, .null, .null, .int 0, .int 0, .int (-1), .int 0, .null, .null, .int 0])), (q_1, .inr (5, [.ref u_2, .ref u_3, .int 0, .ref u_4])), (u_2, .inr (2, [.int 1024, .ref u_5, .int 0]))] H locs := h
  refine lv_aload_n hx hb dX1_init_45 rfl (lv_at hl 0 rfl) ?_
  refine lv_iconst (v := 0) hx hb dX1_init_46 (by decide) ?_
  refine r_put X h kl1 0 9 (v := .int 0) rfl (by decide) lk_X1_38 rfl rfl rfl (Nat.le_of_ble_eq_true rfl) dX1_init_47 (fun H locs h => ?_)
  have h : ST g A s [(h0, .inr (1, [.ref q_1, .null, .null, .int 0, .int 0, .int (-1), .int 0, .null, .null, .int 0])), (q_1, .inr (5, [.ref u_2, .ref u_3, .int 0, .ref u_4])), (u_2, .inr (2, [.int 1024, .ref u_5, .int 0]))] H locs := h
  refine lv_aload_n hx hb dX1_init_50 rfl (lv_at hl 0 rfl) ?_
  refine lv_aload_n hx hb dX1_init_51 rfl (lv_at hl 1 rfl) ?_
  refine r_putF X h kl1 0 1 (v := .ref tx) rfl (by decide) lk_X1_41 rfl rfl rfl rfl (Nat.le_of_ble_eq_true rfl) dX1_init_52 (fun H locs h => ?_)
  have h : ST g A s [(h0, .inr (1, [.ref q_1, .ref tx, .null, .int 0, .int 0, .int (-1), .int 0, .null, .null, .int 0])), (q_1, .inr (5, [.ref u_2, .ref u_3, .int 0, .ref u_4])), (u_2, .inr (2, [.int 1024, .ref u_5, .int 0]))] H locs := h
  refine lv_aload_n hx hb dX1_init_55 rfl (lv_at hl 0 rfl) ?_
  refine lv_aload_n hx hb dX1_init_56 rfl (lv_at hl 2 rfl) ?_
  refine r_putF X h kl1 0 2 (v := .ref vr) rfl (by decide) lk_X1_45 rfl rfl rfl rfl (Nat.le_of_ble_eq_true rfl) dX1_init_57 (fun H locs h => ?_)
  have h : ST g A s [(h0, .inr (1, [.ref q_1, .ref tx, .ref vr, .int 0, .int 0, .int (-1), .int 0, .null, .null, .int 0])), (q_1, .inr (5, [.ref u_2, .ref u_3, .int 0, .ref u_4])), (u_2, .inr (2, [.int 1024, .ref u_5, .int 0]))] H locs := h
  exact r_vret X h hAe (q_1, u_2, u_3, u_4, u_5) [0, 1, 2] rfl rfl 5 33 (Nat.le_of_ble_eq_true rfl) (Nat.le_of_ble_eq_true rfl) dX1_init_60

set_option maxHeartbeats 4000000 in
set_option maxRecDepth 100000 in
/-- Reader.read() of an empty text -/
theorem c1_read (l : Launch) (g : GE) (sz : Nat) (h0 : Nat) (t : Nat) (tx : Nat) (vr : Nat) (txb : Nat) (tc : Nat) (tO : Nat) (tm : Nat) : Met l yX1_read (.code yX1_read cX1_read 2 (some .int) :: WL) { frames := 1, cells := 0, slots := 0, locals := 22 } (PR g [.ref h0] [(h0, .inr (1, [.ref t, .ref tx, .ref vr, .int 0, .int 0, .int (-1), .int 0, .null, .null, .int 0])), (tx, .inr (2, [.int 120, .ref txb, .int 0])), (t, .inr (5, [.ref tc, .ref tO, .int 0, .ref tm]))] sz) (QI g [(h0, .inr (1, [.ref t, .ref tx, .ref vr, .int 0, .int 0, .int (-1), .int 0, .null, .null, .int 0])), (tx, .inr (2, [.int 120, .ref txb, .int 0])), (t, .inr (5, [.ref tc, .ref tO, .int 0, .ref tm]))] sz (-1) (fun _ : Unit => [(h0, .inr (1, [.ref t, .ref tx, .ref vr, .int 0, .int 0, .int (-1), .int 0, .null, .null, .int 0])), (tx, .inr (2, [.int 120, .ref txb, .int 0])), (t, .inr (5, [.ref tc, .ref tO, .int 0, .ref tm]))])) 0 0 (va_A [(h0, .inr (1, [.ref t, .ref tx, .ref vr, .int 0, .int 0, .int (-1), .int 0, .null, .null, .int 0])), (tx, .inr (2, [.int 120, .ref txb, .int 0])), (t, .inr (5, [.ref tc, .ref tO, .int 0, .ref tm]))] sz) := by
  refine k_start (by decide) (Nat.le_of_ble_eq_true rfl) ?_
  intro pp ee s m bb mm cd A H locs hAe X h ls hl
  have X : CX g pp s m mm cd _ cX1_read 2 RX1 "read" (some .int) A := X
  have hx := X.1
  have hb := X.2.1
  have hl : lv_has ls 2 [(0, .ref h0)] := hl
  refine lv_iconst (v := 0) hx hb dX1_read_0 (by decide) ?_
  refine lv_istore_n (lv' := [(1, .int 0), (0, .ref h0)]) hx hb dX1_read_1 rfl hl (by decide) rfl (fun ls hl => ?_)
  refine lv_iload_n hx hb dX1_read_2 rfl (lv_at hl 0 rfl) ?_
  refine lv_aload_n hx hb dX1_read_3 rfl (lv_at hl 1 rfl) ?_
  refine r_get X h kl1 0 1 rfl (by decide) lk_X1_41 rfl dX1_read_4 ?_
  refine k_i X h [1] [0, 2] (wr := [(h0, .inr (1, [.ref t, .ref tx, .ref vr, .int 0, .int 0, .int (-1), .int 0, .null, .null, .int 0])), (t, .inr (5, [.ref tc, .ref tO, .int 0, .ref tm]))]) rfl rfl rfl (by decide) 0 0 (Nat.le_of_ble_eq_true rfl) (Nat.le_of_ble_eq_true rfl) (k_runV X h (As := []) (rest := [.int 0]) (c2_size l g H.size tx 120 txb 0) cw_X1_49 [1] rfl rfl 1 kl2 rfl rfl rfl (Nat.le_of_ble_eq_true rfl) (Nat.le_of_ble_eq_true rfl) rfl hl.1 rfl (Nat.le_of_ble_eq_true rfl) dX1_read_7 (Nat.le_of_ble_eq_true rfl) (Nat.le_of_ble_eq_true rfl)) (fun _ H locs h => ?_)
  have h : ST g A s [(h0, .inr (1, [.ref t, .ref tx, .ref vr, .int 0, .int 0, .int (-1), .int 0, .null, .null, .int 0])), (t, .inr (5, [.ref tc, .ref tO, .int 0, .ref tm])), (tx, .inr (2, [.int 120, .ref txb, .int 0]))] H locs := h
  refine lv_icmp_ge (tgt := 44) hx hb dX1_read_10 (by decide) (fun c_1 => ?_) (fun c_1 => absurd (by decide) c_1)
  refine lv_aload_n hx hb dX1_read_44 rfl (lv_at hl 1 rfl) ?_
  refine r_get X h kl1 0 5 rfl (by decide) lk_X1_25 rfl dX1_read_45 ?_
  refine lv_iconst (v := (-1)) hx hb dX1_read_48 (by decide) ?_
  refine lv_icmp_ne (tgt := 77) hx hb dX1_read_49 (by decide) (fun c_2 => absurd (by decide) c_2) (fun c_2 => ?_)
  refine lv_aload_n hx hb dX1_read_52 rfl (lv_at hl 1 rfl) ?_
  refine r_get X h kl1 0 3 rfl (by decide) lk_X1_18 rfl dX1_read_53 ?_
  refine lv_if_ne (tgt := 66) hx hb dX1_read_56 (by decide) (fun c_3 => absurd (by decide) c_3) (fun c_3 => ?_)
  refine lv_aload_n hx hb dX1_read_59 rfl (lv_at hl 1 rfl) ?_
  refine r_get X h kl1 0 8 rfl (by decide) lk_X1_35 rfl dX1_read_60 ?_
  refine lv_ifnullN (tgt := 77) hx hb dX1_read_63 (by decide) ?_
  refine lv_aload_n hx hb dX1_read_77 rfl (lv_at hl 1 rfl) ?_
  refine r_get X h kl1 0 5 rfl (by decide) lk_X1_25 rfl dX1_read_78 ?_
  refine lv_iconst (v := (-1)) hx hb dX1_read_81 (by decide) ?_
  refine lv_icmp_ne (tgt := 92) hx hb dX1_read_82 (by decide) (fun c_4 => absurd (by decide) c_4) (fun c_4 => ?_)
  refine lv_aload_n hx hb dX1_read_85 rfl (lv_at hl 1 rfl) ?_
  refine r_get X h kl1 0 0 rfl (by decide) lk_X1_12 rfl dX1_read_86 ?_
  refine k_v X h [1] [0, 2] (wr := [(h0, .inr (1, [.ref t, .ref tx, .ref vr, .int 0, .int 0, .int (-1), .int 0, .null, .null, .int 0])), (tx, .inr (2, [.int 120, .ref txb, .int 0]))]) rfl rfl rfl (by decide) 0 0 (Nat.le_of_ble_eq_true rfl) (Nat.le_of_ble_eq_true rfl) (k_runV X h (As := []) (rest := []) (c5_settleMasters l g H.size t tc tO tm) cw_X1_63 [1] rfl rfl 1 kl5 rfl rfl rfl (Nat.le_of_ble_eq_true rfl) (Nat.le_of_ble_eq_true rfl) rfl hl.1 rfl (Nat.le_of_ble_eq_true rfl) dX1_read_89 (Nat.le_of_ble_eq_true rfl) (Nat.le_of_ble_eq_true rfl)) (fun _ H locs h => ?_)
  have h : ST g A s [(h0, .inr (1, [.ref t, .ref tx, .ref vr, .int 0, .int 0, .int (-1), .int 0, .null, .null, .int 0])), (tx, .inr (2, [.int 120, .ref txb, .int 0])), (t, .inr (5, [.ref tc, .ref tO, .int 0, .ref tm]))] H locs := h
  refine lv_aload_n hx hb dX1_read_92 rfl (lv_at hl 1 rfl) ?_
  refine r_get X h kl1 0 5 rfl (by decide) lk_X1_25 rfl dX1_read_93 ?_
  exact r_iret X h hAe () [0, 1, 2] rfl rfl 0 0 (Nat.le_of_ble_eq_true rfl) (Nat.le_of_ble_eq_true rfl) rfl dX1_read_96
