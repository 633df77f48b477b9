theorem fit1 (f : Nat → Int32) (v : Int32) : ∀ i, i < Int32.toNatClampNeg 1 → fits .byte (.int ((upd f 0 (vp_nar .byte v)) (Int32.toNatClampNeg 0 + i))) = true := by
  intro i hi
  have h1 : i = 0 := by
    have h2 : Int32.toNatClampNeg 1 = 1 := by decide
    omega
  subst h1
  show fits .byte (.int (upd f 0 (vp_nar .byte v) 0)) = true
  rw [pk_us, vp_nar_byte]
  exact pk_fb v

set_option maxHeartbeats 4000000 in
set_option maxRecDepth 100000 in
/-- Row(room) -/
theorem c2_init (l : Launch) (g : GE) (sz : Nat) (h0 : Nat) (room : Int32) : Met l yX2_init (.code yX2_init cX2_init 2 none :: WL) { frames := 1, cells := 1, slots := 0, locals := 12 } (PR g [.ref h0, .int room] [(h0, .inr (2, [.int 0, .null, .int 0]))] sz) (QV g [(h0, .inr (2, [.int 0, .null, .int 0]))] sz (fun u : Nat => [(h0, .inr (2, [.int room, .ref u, .int 0])), (u, .inl (g.2 0, 0, .inl (fun _ => 0)))])) 1 0 (va_A [(h0, .inr (2, [.int 0, .null, .int 0]))] sz) := by
  refine k_start (by decide) (Nat.le_of_ble_eq_true rfl) ?_
  intro pp ee s m bb mm cd A H locs hAe X h ls hl
  have X : CX g pp s m mm cd _ cX2_init 2 RX2 "<init>" none A := X
  have hx := X.1
  have hb := X.2.1
  have hl : lv_has ls 2 [(0, .ref h0), (1, .int room)] := hl
  refine lv_aload_n hx hb dX2_init_0 rfl (lv_at hl 0 rfl) ?_
  refine r_objInit X lk_X2_3 lk_obj_i lk_obj_c hl.1 dX2_init_1 (Nat.le_of_ble_eq_true rfl) (Nat.le_of_ble_eq_true rfl) ?_
  refine lv_aload_n hx hb dX2_init_4 rfl (lv_at hl 0 rfl) ?_
  refine lv_iconst (v := 0) hx hb dX2_init_5 (by decide) ?_
  refine r_newa X h 0 1 0 (atype := .byte) (ty := .byte) (N := 0) lk_aB rfl rfl rfl (by decide) (by decide) (Nat.le_of_ble_eq_true rfl) (Nat.le_of_ble_eq_true rfl) (Nat.le_of_ble_eq_true rfl) (Nat.le_of_ble_eq_true rfl) (Nat.le_of_ble_eq_true rfl) dX2_init_6 (fun q_1 H h => ?_)
  have h : ST g A s [(h0, .inr (2, [.int 0, .null, .int 0])), (q_1, .inl (g.2 0, 0, .inl (fun _ => 0)))] H locs := h
  refine r_put X h kl2 0 1 (v := .ref q_1) rfl (by decide) lk_X2_9 rfl rfl rfl (Nat.le_of_ble_eq_true rfl) dX2_init_8 (fun H locs h => ?_)
  have h : ST g A s [(h0, .inr (2, [.int 0, .ref q_1, .int 0])), (q_1, .inl (g.2 0, 0, .inl (fun _ => 0)))] H locs := h
  refine lv_aload_n hx hb dX2_init_11 rfl (lv_at hl 0 rfl) ?_
  refine lv_iconst (v := 0) hx hb dX2_init_12 (by decide) ?_
  refine r_put X h kl2 0 2 (v := .int 0) rfl (by decide) lk_X2_15 rfl rfl rfl (Nat.le_of_ble_eq_true rfl) dX2_init_13 (fun H locs h => ?_)
  have h : ST g A s [(h0, .inr (2, [.int 0, .ref q_1, .int 0])), (q_1, .inl (g.2 0, 0, .inl (fun _ => 0)))] H locs := h
  refine lv_aload_n hx hb dX2_init_16 rfl (lv_at hl 0 rfl) ?_
  refine lv_iload_n hx hb dX2_init_17 rfl (lv_at hl 1 rfl) ?_
  refine r_putF X h kl2 0 0 (v := .int room) rfl (by decide) lk_X2_19 rfl rfl rfl rfl (Nat.le_of_ble_eq_true rfl) dX2_init_18 (fun H locs h => ?_)
  have h : ST g A s [(h0, .inr (2, [.int room, .ref q_1, .int 0])), (q_1, .inl (g.2 0, 0, .inl (fun _ => 0)))] H locs := h
  exact r_vret X h hAe q_1 [0, 1] rfl rfl 1 0 (Nat.le_of_ble_eq_true rfl) (Nat.le_of_ble_eq_true rfl) dX2_init_21

set_option maxHeartbeats 4000000 in
set_option maxRecDepth 100000 in
/-- Row.size() -/
theorem c2_size (l : Launch) (g : GE) (sz : Nat) (h0 : Nat) (room : Int32) (b : Nat) (size : Int32) : Met l yX2_size (.code yX2_size cX2_size 1 (some .int) :: WL) { frames := 0, cells := 0, slots := 0, locals := 0 } (PR g [.ref h0] [(h0, .inr (2, [.int room, .ref b, .int size]))] sz) (QI g [(h0, .inr (2, [.int room, .ref b, .int size]))] sz size (fun _ : Unit => [(h0, .inr (2, [.int room, .ref b, .int size]))])) 0 0 (va_A [(h0, .inr (2, [.int room, .ref b, .int size]))] sz) := by
  refine k_start (by decide) (Nat.le_of_ble_eq_true rfl) ?_
  intro pp ee s m bb mm cd A H locs hAe X h ls hl
  have X : CX g pp s m mm cd _ cX2_size 1 RX2 "size" (some .int) A := X
  have hx := X.1
  have hb := X.2.1
  have hl : lv_has ls 1 [(0, .ref h0)] := hl
  refine lv_aload_n hx hb dX2_size_0 rfl (lv_at hl 0 rfl) ?_
  refine r_get X h kl2 0 2 rfl (by decide) lk_X2_15 rfl dX2_size_1 ?_
  exact r_iret X h hAe () [0] rfl rfl 0 0 (Nat.le_of_ble_eq_true rfl) (Nat.le_of_ble_eq_true rfl) rfl dX2_size_4

set_option maxHeartbeats 4000000 in
set_option maxRecDepth 100000 in
/-- Row.empty() -/
theorem c2_empty (l : Launch) (g : GE) (sz : Nat) (h0 : Nat) (room : Int32) (b : Nat) (size : Int32) : Met l yX2_empty (.code yX2_empty cX2_empty 1 none :: WL) { frames := 0, cells := 0, slots := 0, locals := 0 } (PR g [.ref h0] [(h0, .inr (2, [.int room, .ref b, .int size]))] sz) (QV g [(h0, .inr (2, [.int room, .ref b, .int size]))] sz (fun _ : Unit => [(h0, .inr (2, [.int room, .ref b, .int 0]))])) 0 0 (va_A [(h0, .inr (2, [.int room, .ref b, .int size]))] sz) := by
  refine k_start (by decide) (Nat.le_of_ble_eq_true rfl) ?_
  intro pp ee s m bb mm cd A H locs hAe X h ls hl
  have X : CX g pp s m mm cd _ cX2_empty 1 RX2 "empty" none A := X
  have hx := X.1
  have hb := X.2.1
  have hl : lv_has ls 1 [(0, .ref h0)] := hl
  refine lv_aload_n hx hb dX2_empty_0 rfl (lv_at hl 0 rfl) ?_
  refine lv_iconst (v := 0) hx hb dX2_empty_1 (by decide) ?_
  refine r_put X h kl2 0 2 (v := .int 0) rfl (by decide) lk_X2_15 rfl rfl rfl (Nat.le_of_ble_eq_true rfl) dX2_empty_2 (fun H locs h => ?_)
  have h : ST g A s [(h0, .inr (2, [.int room, .ref b, .int 0]))] H locs := h
  exact r_vret X h hAe () [0] rfl rfl 0 0 (Nat.le_of_ble_eq_true rfl) (Nat.le_of_ble_eq_true rfl) dX2_empty_5

set_option maxHeartbeats 4000000 in
set_option maxRecDepth 100000 in
/-- Row.get(i) of an empty row: NONE -/
theorem c2_get_none (l : Launch) (g : GE) (sz : Nat) (h0 : Nat) (room : Int32) (b : Nat) (i : Int32) (hi : ¬ i < 0) : Met l yX2_get (.code yX2_get cX2_get 2 (some .int) :: WL) { frames := 0, cells := 0, slots := 0, locals := 0 } (PR g [.ref h0, .int i] [(h0, .inr (2, [.int room, .ref b, .int 0]))] sz) (QI g [(h0, .inr (2, [.int room, .ref b, .int 0]))] sz (-1) (fun _ : Unit => [(h0, .inr (2, [.int room, .ref b, .int 0]))])) 0 0 (va_A [(h0, .inr (2, [.int room, .ref b, .int 0]))] sz) := by
  refine k_start (by decide) (Nat.le_of_ble_eq_true rfl) ?_
  intro pp ee s m bb mm cd A H locs hAe X h ls hl
  have X : CX g pp s m mm cd _ cX2_get 2 RX2 "get" (some .int) A := X
  have hx := X.1
  have hb := X.2.1
  have hl : lv_has ls 2 [(0, .ref h0), (1, .int i)] := hl
  refine lv_iload_n hx hb dX2_get_0 rfl (lv_at hl 1 rfl) ?_
  refine lv_if_lt (tgt := 12) hx hb dX2_get_1 (by decide) (fun c_1 => absurd c_1 hi) (fun c_1 => ?_)
  refine lv_iload_n hx hb dX2_get_4 rfl (lv_at hl 1 rfl) ?_
  refine lv_aload_n hx hb dX2_get_5 rfl (lv_at hl 0 rfl) ?_
  refine r_get X h kl2 0 2 rfl (by decide) lk_X2_15 rfl dX2_get_6 ?_
  refine lv_icmp_lt (tgt := 16) hx hb dX2_get_9 (by decide) (fun c_2 => absurd c_2 hi) (fun c_2 => ?_)
  refine lv_iconst (v := (-1)) hx hb dX2_get_12 (by decide) ?_
  refine lv_goto (tgt := 26) hx hb dX2_get_13 (by decide) ?_
  exact r_iret X h hAe () [0] rfl rfl 0 0 (Nat.le_of_ble_eq_true rfl) (Nat.le_of_ble_eq_true rfl) rfl dX2_get_26

set_option maxHeartbeats 4000000 in
set_option maxRecDepth 100000 in
/-- Row.put(0, v) of a row of one byte -/
theorem c2_put0 (l : Launch) (g : GE) (sz : Nat) (h0 : Nat) (room : Int32) (b : Nat) (f : Nat → Int32) (v : Int32) : Met l yX2_put (.code yX2_put cX2_put 3 none :: WL) { frames := 0, cells := 0, slots := 0, locals := 0 } (PR g [.ref h0, .int 0, .int v] [(h0, .inr (2, [.int room, .ref b, .int 1])), (b, .inl (g.2 0, 16, .inl f))] sz) (QV g [(h0, .inr (2, [.int room, .ref b, .int 1])), (b, .inl (g.2 0, 16, .inl f))] sz (fun _ : Unit => [(h0, .inr (2, [.int room, .ref b, .int 1])), (b, .inl (g.2 0, 16, .inl (upd f 0 (vp_nar .byte (Int8.toInt32 (Int32.toInt8 v))))))])) 0 0 (va_A [(h0, .inr (2, [.int room, .ref b, .int 1])), (b, .inl (g.2 0, 16, .inl f))] sz) := by
  refine k_start (by decide) (Nat.le_of_ble_eq_true rfl) ?_
  intro pp ee s m bb mm cd A H locs hAe X h ls hl
  have X : CX g pp s m mm cd _ cX2_put 3 RX2 "put" none A := X
  have hx := X.1
  have hb := X.2.1
  have hl : lv_has ls 3 [(0, .ref h0), (1, .int 0), (2, .int v)] := hl
  refine lv_iload_n hx hb dX2_put_0 rfl (lv_at hl 1 rfl) ?_
  refine lv_if_lt (tgt := 20) hx hb dX2_put_1 (by decide) (fun c_1 => absurd c_1 (by decide)) (fun c_1 => ?_)
  refine lv_iload_n hx hb dX2_put_4 rfl (lv_at hl 1 rfl) ?_
  refine lv_aload_n hx hb dX2_put_5 rfl (lv_at hl 0 rfl) ?_
  refine r_get X h kl2 0 2 rfl (by decide) lk_X2_15 rfl dX2_put_6 ?_
  refine lv_icmp_ge (tgt := 20) hx hb dX2_put_9 (by decide) (fun c_2 => absurd c_2 (by decide)) (fun c_2 => ?_)
  refine lv_aload_n hx hb dX2_put_12 rfl (lv_at hl 0 rfl) ?_
  refine r_get X h kl2 0 1 rfl (by decide) lk_X2_9 rfl dX2_put_13 ?_
  refine lv_iload_n hx hb dX2_put_16 rfl (lv_at hl 1 rfl) ?_
  refine lv_iload_n hx hb dX2_put_17 rfl (lv_at hl 2 rfl) ?_
  refine lv_i2b (v := (Int8.toInt32 (Int32.toInt8 v))) hx hb dX2_put_18 rfl ?_
  refine r_bast X h 1 rfl (vp_lit (by decide +kernel)) dX2_put_19 (fun H locs h => ?_)
  have h : ST g A s [(h0, .inr (2, [.int room, .ref b, .int 1])), (b, .inl (g.2 0, 16, .inl (upd f 0 (vp_nar .byte (Int8.toInt32 (Int32.toInt8 v))))))] H locs := h
  exact r_vret X h hAe () [0, 1] rfl rfl 0 0 (Nat.le_of_ble_eq_true rfl) (Nat.le_of_ble_eq_true rfl) dX2_put_20

set_option maxHeartbeats 4000000 in
set_option maxRecDepth 100000 in
/-- Row.widen(1), room 120 -/
theorem c2_widen_120 (l : Launch) (g : GE) (sz : Nat) (h0 : Nat) (b : Nat) : Met l yX2_widen (.code yX2_widen cX2_widen 5 none :: WL) { frames := 0, cells := 1, slots := 16, locals := 0 } (PR g [.ref h0, .int 1] [(h0, .inr (2, [.int 120, .ref b, .int 0])), (b, .inl (g.2 0, 0, .inl (fun _ => 0)))] sz) (QV g [(h0, .inr (2, [.int 120, .ref b, .int 0])), (b, .inl (g.2 0, 0, .inl (fun _ => 0)))] sz (fun u : Nat => [(h0, .inr (2, [.int 120, .ref u, .int 0])), (u, .inl (g.2 0, 16, .inl (fun _ => 0)))])) 1 16 (va_A [(h0, .inr (2, [.int 120, .ref b, .int 0])), (b, .inl (g.2 0, 0, .inl (fun _ => 0)))] sz) := by
  refine k_start (by decide) (Nat.le_of_ble_eq_true rfl) ?_
  intro pp ee s m bb mm cd A H locs hAe X h ls hl
  have X : CX g pp s m mm cd _ cX2_widen 5 RX2 "widen" none A := X
  have hx := X.1
  have hb := X.2.1
  have hl : lv_has ls 5 [(0, .ref h0), (1, .int 1)] := hl
  refine lv_iload_n hx hb dX2_widen_0 rfl (lv_at hl 1 rfl) ?_
  refine lv_aload_n hx hb dX2_widen_1 rfl (lv_at hl 0 rfl) ?_
  refine r_get X h kl2 0 1 rfl (by decide) lk_X2_9 rfl dX2_widen_2 ?_
  refine r_alen X h 1 0 (v := 0) rfl rfl rfl dX2_widen_5 ?_
  refine lv_icmp_le (tgt := 17) hx hb dX2_widen_6 (by decide) (fun c_1 => absurd c_1 (by decide)) (fun c_1 => ?_)
  refine lv_iload_n hx hb dX2_widen_9 rfl (lv_at hl 1 rfl) ?_
  refine lv_aload_n hx hb dX2_widen_10 rfl (lv_at hl 0 rfl) ?_
  refine r_get X h kl2 0 0 rfl (by decide) lk_X2_19 rfl dX2_widen_11 ?_
  refine lv_icmp_le (tgt := 18) hx hb dX2_widen_14 (by decide) (fun c_2 => ?_) (fun c_2 => absurd (by decide) c_2)
  refine lv_aload_n hx hb dX2_widen_18 rfl (lv_at hl 0 rfl) ?_
  refine r_get X h kl2 0 1 rfl (by decide) lk_X2_9 rfl dX2_widen_19 ?_
  refine r_alen X h 1 0 (v := 0) rfl rfl rfl dX2_widen_22 ?_
  refine lv_bipush (v := 8) hx hb dX2_widen_23 (by decide) ?_
  refine lv_icmp_ge (tgt := 33) hx hb dX2_widen_25 (by decide) (fun c_3 => absurd c_3 (by decide)) (fun c_3 => ?_)
  refine lv_bipush (v := 16) hx hb dX2_widen_28 (by decide) ?_
  refine lv_goto (tgt := 40) hx hb dX2_widen_30 (by decide) ?_
  refine lv_istore_n (lv' := [(2, .int 16), (0, .ref h0), (1, .int 1)]) hx hb dX2_widen_40 rfl hl (by decide) rfl (fun ls hl => ?_)
  refine lv_iload_n hx hb dX2_widen_41 rfl (lv_at hl 0 rfl) ?_
  refine lv_iload_n hx hb dX2_widen_42 rfl (lv_at hl 2 rfl) ?_
  refine lv_icmp_ge (tgt := 48) hx hb dX2_widen_43 (by decide) (fun c_4 => ?_) (fun c_4 => absurd (by decide) c_4)
  refine lv_iload_n hx hb dX2_widen_48 rfl (lv_at hl 0 rfl) ?_
  refine lv_aload_n hx hb dX2_widen_49 rfl (lv_at hl 1 rfl) ?_
  refine r_get X h kl2 0 0 rfl (by decide) lk_X2_19 rfl dX2_widen_50 ?_
  refine lv_icmp_le (tgt := 61) hx hb dX2_widen_53 (by decide) (fun c_5 => ?_) (fun c_5 => absurd (by decide) c_5)
  refine lv_iload_n hx hb dX2_widen_61 rfl (lv_at hl 0 rfl) ?_
  refine r_newa X h 0 1 16 (atype := .byte) (ty := .byte) (N := 16) lk_aB rfl rfl rfl (by decide) (by decide) (Nat.le_of_ble_eq_true rfl) (Nat.le_of_ble_eq_true rfl) (Nat.le_of_ble_eq_true rfl) (Nat.le_of_ble_eq_true rfl) (Nat.le_of_ble_eq_true rfl) dX2_widen_62 (fun q_6 H h => ?_)
  have h : ST g A s [(h0, .inr (2, [.int 120, .ref b, .int 0])), (b, .inl (g.2 0, 0, .inl (fun _ => 0))), (q_6, .inl (g.2 0, 16, .inl (fun _ => 0)))] H locs := h
  refine lv_astore_n (lv' := [(3, .ref q_6), (2, .int 16), (0, .ref h0), (1, .int 1)]) hx hb dX2_widen_64 rfl hl (by decide) rfl (fun ls hl => ?_)
  refine lv_iconst (v := 0) hx hb dX2_widen_65 (by decide) ?_
  refine lv_istore (lv' := [(4, .int 0), (3, .ref q_6), (2, .int 16), (0, .ref h0), (1, .int 1)]) hx hb dX2_widen_66 hl (by decide) rfl (fun ls hl => ?_)
  refine lv_iload hx hb dX2_widen_68 (lv_at hl 0 rfl) ?_
  refine lv_aload_n hx hb dX2_widen_70 rfl (lv_at hl 3 rfl) ?_
  refine r_get X h kl2 0 2 rfl (by decide) lk_X2_15 rfl dX2_widen_71 ?_
  refine lv_icmp_ge (tgt := 94) hx hb dX2_widen_74 (by decide) (fun c_7 => ?_) (fun c_7 => absurd (by decide) c_7)
  refine lv_aload_n hx hb dX2_widen_94 rfl (lv_at hl 3 rfl) ?_
  refine lv_aload_n hx hb dX2_widen_95 rfl (lv_at hl 1 rfl) ?_
  refine r_put X h kl2 0 1 (v := .ref q_6) rfl (by decide) lk_X2_9 rfl rfl rfl (Nat.le_of_ble_eq_true rfl) dX2_widen_96 (fun H locs h => ?_)
  have h : ST g A s [(h0, .inr (2, [.int 120, .ref q_6, .int 0])), (b, .inl (g.2 0, 0, .inl (fun _ => 0))), (q_6, .inl (g.2 0, 16, .inl (fun _ => 0)))] H locs := h
  exact r_vret X h hAe q_6 [0, 2] rfl rfl 1 16 (Nat.le_of_ble_eq_true rfl) (Nat.le_of_ble_eq_true rfl) dX2_widen_99

set_option maxHeartbeats 4000000 in
set_option maxRecDepth 100000 in
/-- Row.widen(1), room 241 -/
theorem c2_widen_241 (l : Launch) (g : GE) (sz : Nat) (h0 : Nat) (b : Nat) : Met l yX2_widen (.code yX2_widen cX2_widen 5 none :: WL) { frames := 0, cells := 1, slots := 16, locals := 0 } (PR g [.ref h0, .int 1] [(h0, .inr (2, [.int 241, .ref b, .int 0])), (b, .inl (g.2 0, 0, .inl (fun _ => 0)))] sz) (QV g [(h0, .inr (2, [.int 241, .ref b, .int 0])), (b, .inl (g.2 0, 0, .inl (fun _ => 0)))] sz (fun u : Nat => [(h0, .inr (2, [.int 241, .ref u, .int 0])), (u, .inl (g.2 0, 16, .inl (fun _ => 0)))])) 1 16 (va_A [(h0, .inr (2, [.int 241, .ref b, .int 0])), (b, .inl (g.2 0, 0, .inl (fun _ => 0)))] sz) := by
  refine k_start (by decide) (Nat.le_of_ble_eq_true rfl) ?_
  intro pp ee s m bb mm cd A H locs hAe X h ls hl
  have X : CX g pp s m mm cd _ cX2_widen 5 RX2 "widen" none A := X
  have hx := X.1
  have hb := X.2.1
  have hl : lv_has ls 5 [(0, .ref h0), (1, .int 1)] := hl
  refine lv_iload_n hx hb dX2_widen_0 rfl (lv_at hl 1 rfl) ?_
  refine lv_aload_n hx hb dX2_widen_1 rfl (lv_at hl 0 rfl) ?_
  refine r_get X h kl2 0 1 rfl (by decide) lk_X2_9 rfl dX2_widen_2 ?_
  refine r_alen X h 1 0 (v := 0) rfl rfl rfl dX2_widen_5 ?_
  refine lv_icmp_le (tgt := 17) hx hb dX2_widen_6 (by decide) (fun c_1 => absurd c_1 (by decide)) (fun c_1 => ?_)
  refine lv_iload_n hx hb dX2_widen_9 rfl (lv_at hl 1 rfl) ?_
  refine lv_aload_n hx hb dX2_widen_10 rfl (lv_at hl 0 rfl) ?_
  refine r_get X h kl2 0 0 rfl (by decide) lk_X2_19 rfl dX2_widen_11 ?_
  refine lv_icmp_le (tgt := 18) hx hb dX2_widen_14 (by decide) (fun c_2 => ?_) (fun c_2 => absurd (by decide) c_2)
  refine lv_aload_n hx hb dX2_widen_18 rfl (lv_at hl 0 rfl) ?_
  refine r_get X h kl2 0 1 rfl (by decide) lk_X2_9 rfl dX2_widen_19 ?_
  refine r_alen X h 1 0 (v := 0) rfl rfl rfl dX2_widen_22 ?_
  refine lv_bipush (v := 8) hx hb dX2_widen_23 (by decide) ?_
  refine lv_icmp_ge (tgt := 33) hx hb dX2_widen_25 (by decide) (fun c_3 => absurd c_3 (by decide)) (fun c_3 => ?_)
  refine lv_bipush (v := 16) hx hb dX2_widen_28 (by decide) ?_
  refine lv_goto (tgt := 40) hx hb dX2_widen_30 (by decide) ?_
  refine lv_istore_n (lv' := [(2, .int 16), (0, .ref h0), (1, .int 1)]) hx hb dX2_widen_40 rfl hl (by decide) rfl (fun ls hl => ?_)
  refine lv_iload_n hx hb dX2_widen_41 rfl (lv_at hl 0 rfl) ?_
  refine lv_iload_n hx hb dX2_widen_42 rfl (lv_at hl 2 rfl) ?_
  refine lv_icmp_ge (tgt := 48) hx hb dX2_widen_43 (by decide) (fun c_4 => ?_) (fun c_4 => absurd (by decide) c_4)
  refine lv_iload_n hx hb dX2_widen_48 rfl (lv_at hl 0 rfl) ?_
  refine lv_aload_n hx hb dX2_widen_49 rfl (lv_at hl 1 rfl) ?_
  refine r_get X h kl2 0 0 rfl (by decide) lk_X2_19 rfl dX2_widen_50 ?_
  refine lv_icmp_le (tgt := 61) hx hb dX2_widen_53 (by decide) (fun c_5 => ?_) (fun c_5 => absurd (by decide) c_5)
  refine lv_iload_n hx hb dX2_widen_61 rfl (lv_at hl 0 rfl) ?_
  refine r_newa X h 0 1 16 (atype := .byte) (ty := .byte) (N := 16) lk_aB rfl rfl rfl (by decide) (by decide) (Nat.le_of_ble_eq_true rfl) (Nat.le_of_ble_eq_true rfl) (Nat.le_of_ble_eq_true rfl) (Nat.le_of_ble_eq_true rfl) (Nat.le_of_ble_eq_true rfl) dX2_widen_62 (fun q_6 H h => ?_)
  have h : ST g A s [(h0, .inr (2, [.int 241, .ref b, .int 0])), (b, .inl (g.2 0, 0, .inl (fun _ => 0))), (q_6, .inl (g.2 0, 16, .inl (fun _ => 0)))] H locs := h
  refine lv_astore_n (lv' := [(3, .ref q_6), (2, .int 16), (0, .ref h0), (1, .int 1)]) hx hb dX2_widen_64 rfl hl (by decide) rfl (fun ls hl => ?_)
  refine lv_iconst (v := 0) hx hb dX2_widen_65 (by decide) ?_
  refine lv_istore (lv' := [(4, .int 0), (3, .ref q_6), (2, .int 16), (0, .ref h0), (1, .int 1)]) hx hb dX2_widen_66 hl (by decide) rfl (fun ls hl => ?_)
  refine lv_iload hx hb dX2_widen_68 (lv_at hl 0 rfl) ?_
  refine lv_aload_n hx hb dX2_widen_70 rfl (lv_at hl 3 rfl) ?_
  refine r_get X h kl2 0 2 rfl (by decide) lk_X2_15 rfl dX2_widen_71 ?_
  refine lv_icmp_ge (tgt := 94) hx hb dX2_widen_74 (by decide) (fun c_7 => ?_) (fun c_7 => absurd (by decide) c_7)
  refine lv_aload_n hx hb dX2_widen_94 rfl (lv_at hl 3 rfl) ?_
  refine lv_aload_n hx hb dX2_widen_95 rfl (lv_at hl 1 rfl) ?_
  refine r_put X h kl2 0 1 (v := .ref q_6) rfl (by decide) lk_X2_9 rfl rfl rfl (Nat.le_of_ble_eq_true rfl) dX2_widen_96 (fun H locs h => ?_)
  have h : ST g A s [(h0, .inr (2, [.int 241, .ref q_6, .int 0])), (b, .inl (g.2 0, 0, .inl (fun _ => 0))), (q_6, .inl (g.2 0, 16, .inl (fun _ => 0)))] H locs := h
  exact r_vret X h hAe q_6 [0, 2] rfl rfl 1 16 (Nat.le_of_ble_eq_true rfl) (Nat.le_of_ble_eq_true rfl) dX2_widen_99

set_option maxHeartbeats 4000000 in
set_option maxRecDepth 100000 in
/-- Row.add(v) to an empty row, room 120 -/
theorem c2_add_120 (l : Launch) (g : GE) (sz : Nat) (h0 : Nat) (b : Nat) (v : Int32) : Met l yX2_add (.code yX2_add cX2_add 2 none :: WL) { frames := 1, cells := 1, slots := 16, locals := 24 } (PR g [.ref h0, .int v] [(h0, .inr (2, [.int 120, .ref b, .int 0])), (b, .inl (g.2 0, 0, .inl (fun _ => 0)))] sz) (QV g [(h0, .inr (2, [.int 120, .ref b, .int 0])), (b, .inl (g.2 0, 0, .inl (fun _ => 0)))] sz (fun u : Nat => [(h0, .inr (2, [.int 120, .ref u, .int 1])), (u, .inl (g.2 0, 16, .inl (upd (fun _ => 0) 0 (vp_nar .byte (Int8.toInt32 (Int32.toInt8 v))))))])) 1 16 (va_A [(h0, .inr (2, [.int 120, .ref b, .int 0])), (b, .inl (g.2 0, 0, .inl (fun _ => 0)))] sz) := by
  refine k_start (by decide) (Nat.le_of_ble_eq_true rfl) ?_
  intro pp ee s m bb mm cd A H locs hAe X h ls hl
  have X : CX g pp s m mm cd _ cX2_add 2 RX2 "add" none A := X
  have hx := X.1
  have hb := X.2.1
  have hl : lv_has ls 2 [(0, .ref h0), (1, .int v)] := hl
  refine lv_aload_n hx hb dX2_add_0 rfl (lv_at hl 0 rfl) ?_
  refine r_get X h kl2 0 2 rfl (by decide) lk_X2_15 rfl dX2_add_1 ?_
  refine lv_aload_n hx hb dX2_add_4 rfl (lv_at hl 0 rfl) ?_
  refine r_get X h kl2 0 0 rfl (by decide) lk_X2_19 rfl dX2_add_5 ?_
  refine lv_icmp_ge (tgt := 42) hx hb dX2_add_8 (by decide) (fun c_1 => absurd c_1 (by decide)) (fun c_1 => ?_)
  refine lv_aload_n hx hb dX2_add_11 rfl (lv_at hl 0 rfl) ?_
  refine lv_aload_n hx hb dX2_add_12 rfl (lv_at hl 0 rfl) ?_
  refine r_get X h kl2 0 2 rfl (by decide) lk_X2_15 rfl dX2_add_13 ?_
  refine lv_iconst (v := 1) hx hb dX2_add_16 (by decide) ?_
  refine lv_iadd hx hb dX2_add_17 ?_
  refine r_vi (y := 1) (by decide) ?_
  refine k_v X h [0, 1] [] (wr := []) rfl rfl rfl (by decide) 1 16 (Nat.le_of_ble_eq_true rfl) (Nat.le_of_ble_eq_true rfl) (k_runV X h (As := [.int 1]) (rest := []) (c2_widen_120 l g H.size h0 b) cw_X2_22 [0, 1] rfl rfl 0 kl2 rfl rfl rfl (Nat.le_of_ble_eq_true rfl) (Nat.le_of_ble_eq_true rfl) rfl hl.1 rfl (Nat.le_of_ble_eq_true rfl) dX2_add_18 (Nat.le_of_ble_eq_true rfl) (Nat.le_of_ble_eq_true rfl)) (fun u9 H locs h => ?_)
  obtain ⟨u_2, rfl⟩ : ∃ z, z = u9 := ⟨_, rfl⟩
  have h : ST g A s [(h0, .inr (2, [.int 120, .ref u_2, .int 0])), (u_2, .inl (g.2 0, 16, .inl (fun _ => 0)))] H locs := h
  refine lv_aload_n hx hb dX2_add_21 rfl (lv_at hl 0 rfl) ?_
  refine lv_dup hx hb dX2_add_22 rfl ?_
  refine r_get X h kl2 0 2 rfl (by decide) lk_X2_15 rfl dX2_add_23 ?_
  refine lv_iconst (v := 1) hx hb dX2_add_26 (by decide) ?_
  refine lv_iadd hx hb dX2_add_27 ?_
  refine r_vi (y := 1) (by decide) ?_
  refine r_put X h kl2 0 2 (v := .int 1) rfl (by decide) lk_X2_15 rfl rfl rfl (Nat.le_of_ble_eq_true rfl) dX2_add_28 (fun H locs h => ?_)
  have h : ST g A s [(h0, .inr (2, [.int 120, .ref u_2, .int 1])), (u_2, .inl (g.2 0, 16, .inl (fun _ => 0)))] H locs := h
  refine lv_aload_n hx hb dX2_add_31 rfl (lv_at hl 0 rfl) ?_
  refine lv_aload_n hx hb dX2_add_32 rfl (lv_at hl 0 rfl) ?_
  refine r_get X h kl2 0 2 rfl (by decide) lk_X2_15 rfl dX2_add_33 ?_
  refine lv_iconst (v := 1) hx hb dX2_add_36 (by decide) ?_
  refine lv_isub hx hb dX2_add_37 ?_
  refine r_vi (y := 0) (by decide) ?_
  refine lv_iload_n hx hb dX2_add_38 rfl (lv_at hl 1 rfl) ?_
  refine k_v X h [0, 1] [] (wr := []) rfl rfl rfl (by decide) 1 16 (Nat.le_of_ble_eq_true rfl) (Nat.le_of_ble_eq_true rfl) (k_runV X h (As := [.int 0, .int v]) (rest := []) (c2_put0 l g H.size h0 120 u_2 ((fun _ => 0)) v) cw_X2_26 [0, 1] rfl rfl 0 kl2 rfl rfl rfl (Nat.le_of_ble_eq_true rfl) (Nat.le_of_ble_eq_true rfl) rfl hl.1 rfl (Nat.le_of_ble_eq_true rfl) dX2_add_39 (Nat.le_of_ble_eq_true rfl) (Nat.le_of_ble_eq_true rfl)) (fun _ H locs h => ?_)
  have h : ST g A s [(h0, .inr (2, [.int 120, .ref u_2, .int 1])), (u_2, .inl (g.2 0, 16, .inl (upd (fun _ => 0) 0 (vp_nar .byte (Int8.toInt32 (Int32.toInt8 v))))))] H locs := h
  exact r_vret X h hAe u_2 [0, 1] rfl rfl 1 16 (Nat.le_of_ble_eq_true rfl) (Nat.le_of_ble_eq_true rfl) dX2_add_42

set_option maxHeartbeats 4000000 in
set_option maxRecDepth 100000 in
/-- Row.add(v) to an empty row, room 241 -/
theorem c2_add_241 (l : Launch) (g : GE) (sz : Nat) (h0 : Nat) (b : Nat) (v : Int32) : Met l yX2_add (.code yX2_add cX2_add 2 none :: WL) { frames := 1, cells := 1, slots := 16, locals := 24 } (PR g [.ref h0, .int v] [(h0, .inr (2, [.int 241, .ref b, .int 0])), (b, .inl (g.2 0, 0, .inl (fun _ => 0)))] sz) (QV g [(h0, .inr (2, [.int 241, .ref b, .int 0])), (b, .inl (g.2 0, 0, .inl (fun _ => 0)))] sz (fun u : Nat => [(h0, .inr (2, [.int 241, .ref u, .int 1])), (u, .inl (g.2 0, 16, .inl (upd (fun _ => 0) 0 (vp_nar .byte (Int8.toInt32 (Int32.toInt8 v))))))])) 1 16 (va_A [(h0, .inr (2, [.int 241, .ref b, .int 0])), (b, .inl (g.2 0, 0, .inl (fun _ => 0)))] sz) := by
  refine k_start (by decide) (Nat.le_of_ble_eq_true rfl) ?_
  intro pp ee s m bb mm cd A H locs hAe X h ls hl
  have X : CX g pp s m mm cd _ cX2_add 2 RX2 "add" none A := X
  have hx := X.1
  have hb := X.2.1
  have hl : lv_has ls 2 [(0, .ref h0), (1, .int v)] := hl
  refine lv_aload_n hx hb dX2_add_0 rfl (lv_at hl 0 rfl) ?_
  refine r_get X h kl2 0 2 rfl (by decide) lk_X2_15 rfl dX2_add_1 ?_
  refine lv_aload_n hx hb dX2_add_4 rfl (lv_at hl 0 rfl) ?_
  refine r_get X h kl2 0 0 rfl (by decide) lk_X2_19 rfl dX2_add_5 ?_
  refine lv_icmp_ge (tgt := 42) hx hb dX2_add_8 (by decide) (fun c_1 => absurd c_1 (by decide)) (fun c_1 => ?_)
  refine lv_aload_n hx hb dX2_add_11 rfl (lv_at hl 0 rfl) ?_
  refine lv_aload_n hx hb dX2_add_12 rfl (lv_at hl 0 rfl) ?_
  refine r_get X h kl2 0 2 rfl (by decide) lk_X2_15 rfl dX2_add_13 ?_
  refine lv_iconst (v := 1) hx hb dX2_add_16 (by decide) ?_
  refine lv_iadd hx hb dX2_add_17 ?_
  refine r_vi (y := 1) (by decide) ?_
  refine k_v X h [0, 1] [] (wr := []) rfl rfl rfl (by decide) 1 16 (Nat.le_of_ble_eq_true rfl) (Nat.le_of_ble_eq_true rfl) (k_runV X h (As := [.int 1]) (rest := []) (c2_widen_241 l g H.size h0 b) cw_X2_22 [0, 1] rfl rfl 0 kl2 rfl rfl rfl (Nat.le_of_ble_eq_true rfl) (Nat.le_of_ble_eq_true rfl) rfl hl.1 rfl (Nat.le_of_ble_eq_true rfl) dX2_add_18 (Nat.le_of_ble_eq_true rfl) (Nat.le_of_ble_eq_true rfl)) (fun u9 H locs h => ?_)
  obtain ⟨u_2, rfl⟩ : ∃ z, z = u9 := ⟨_, rfl⟩
  have h : ST g A s [(h0, .inr (2, [.int 241, .ref u_2, .int 0])), (u_2, .inl (g.2 0, 16, .inl (fun _ => 0)))] H locs := h
  refine lv_aload_n hx hb dX2_add_21 rfl (lv_at hl 0 rfl) ?_
  refine lv_dup hx hb dX2_add_22 rfl ?_
  refine r_get X h kl2 0 2 rfl (by decide) lk_X2_15 rfl dX2_add_23 ?_
  refine lv_iconst (v := 1) hx hb dX2_add_26 (by decide) ?_
  refine lv_iadd hx hb dX2_add_27 ?_
  refine r_vi (y := 1) (by decide) ?_
  refine r_put X h kl2 0 2 (v := .int 1) rfl (by decide) lk_X2_15 rfl rfl rfl (Nat.le_of_ble_eq_true rfl) dX2_add_28 (fun H locs h => ?_)
  have h : ST g A s [(h0, .inr (2, [.int 241, .ref u_2, .int 1])), (u_2, .inl (g.2 0, 16, .inl (fun _ => 0)))] H locs := h
  refine lv_aload_n hx hb dX2_add_31 rfl (lv_at hl 0 rfl) ?_
  refine lv_aload_n hx hb dX2_add_32 rfl (lv_at hl 0 rfl) ?_
  refine r_get X h kl2 0 2 rfl (by decide) lk_X2_15 rfl dX2_add_33 ?_
  refine lv_iconst (v := 1) hx hb dX2_add_36 (by decide) ?_
  refine lv_isub hx hb dX2_add_37 ?_
  refine r_vi (y := 0) (by decide) ?_
  refine lv_iload_n hx hb dX2_add_38 rfl (lv_at hl 1 rfl) ?_
  refine k_v X h [0, 1] [] (wr := []) rfl rfl rfl (by decide) 1 16 (Nat.le_of_ble_eq_true rfl) (Nat.le_of_ble_eq_true rfl) (k_runV X h (As := [.int 0, .int v]) (rest := []) (c2_put0 l g H.size h0 241 u_2 ((fun _ => 0)) v) cw_X2_26 [0, 1] rfl rfl 0 kl2 rfl rfl rfl (Nat.le_of_ble_eq_true rfl) (Nat.le_of_ble_eq_true rfl) rfl hl.1 rfl (Nat.le_of_ble_eq_true rfl) dX2_add_39 (Nat.le_of_ble_eq_true rfl) (Nat.le_of_ble_eq_true rfl)) (fun _ H locs h => ?_)
  have h : ST g A s [(h0, .inr (2, [.int 241, .ref u_2, .int 1])), (u_2, .inl (g.2 0, 16, .inl (upd (fun _ => 0) 0 (vp_nar .byte (Int8.toInt32 (Int32.toInt8 v))))))] H locs := h
  exact r_vret X h hAe u_2 [0, 1] rfl rfl 1 16 (Nat.le_of_ble_eq_true rfl) (Nat.le_of_ble_eq_true rfl) dX2_add_42

set_option maxHeartbeats 4000000 in
set_option maxRecDepth 100000 in
/-- Row.addPart of nothing, room 241 -/
theorem c2_addPart0_241 (l : Launch) (g : GE) (sz : Nat) (h0 : Nat) (b : Nat) (fr : Nat) : Met l yX2_addPart (.code yX2_addPart cX2_addPart 5 none :: WL) { frames := 1, cells := 0, slots := 0, locals := 13 } (PR g [.ref h0, .ref fr, .int 0, .int 0] [(h0, .inr (2, [.int 241, .ref b, .int 0]))] sz) (QV g [(h0, .inr (2, [.int 241, .ref b, .int 0]))] sz (fun _ : Unit => [(h0, .inr (2, [.int 241, .ref b, .int 0]))])) 0 0 (va_A [(h0, .inr (2, [.int 241, .ref b, .int 0]))] sz) := by
  refine k_start (by decide) (Nat.le_of_ble_eq_true rfl) ?_
  intro pp ee s m bb mm cd A H locs hAe X h ls hl
  have X : CX g pp s m mm cd _ cX2_addPart 5 RX2 "addPart" none A := X
  have hx := X.1
  have hb := X.2.1
  have hl : lv_has ls 5 [(0, .ref h0), (1, .ref fr), (2, .int 0), (3, .int 0)] := hl
  refine lv_iload_n hx hb dX2_addPart_0 rfl (lv_at hl 3 rfl) ?_
  refine lv_iload_n hx hb dX2_addPart_1 rfl (lv_at hl 2 rfl) ?_
  refine lv_isub hx hb dX2_addPart_2 ?_
  refine r_vi (y := 0) (by decide) ?_
  refine lv_aload_n hx hb dX2_addPart_3 rfl (lv_at hl 0 rfl) ?_
  refine r_get X h kl2 0 0 rfl (by decide) lk_X2_19 rfl dX2_addPart_4 ?_
  refine lv_aload_n hx hb dX2_addPart_7 rfl (lv_at hl 0 rfl) ?_
  refine r_get X h kl2 0 2 rfl (by decide) lk_X2_15 rfl dX2_addPart_8 ?_
  refine lv_isub hx hb dX2_addPart_11 ?_
  refine r_vi (y := 241) (by decide) ?_
  refine r_min X (v := 0) lk_X2_30 lk_min_s lk_min_i lk_min_c hl.1 (Nat.le_of_ble_eq_true rfl) (Nat.le_of_ble_eq_true rfl) (Nat.le_of_ble_eq_true rfl) (Nat.le_of_ble_eq_true rfl) dX2_addPart_12 (by decide) ?_
  refine lv_istore (lv' := [(4, .int 0), (0, .ref h0), (1, .ref fr), (2, .int 0), (3, .int 0)]) hx hb dX2_addPart_15 hl (by decide) rfl (fun ls hl => ?_)
  refine lv_iload hx hb dX2_addPart_17 (lv_at hl 0 rfl) ?_
  refine lv_if_le (tgt := 34) hx hb dX2_addPart_19 (by decide) (fun c_1 => ?_) (fun c_1 => absurd (by decide) c_1)
  exact r_vret X h hAe () [0] rfl rfl 0 0 (Nat.le_of_ble_eq_true rfl) (Nat.le_of_ble_eq_true rfl) dX2_addPart_34

set_option maxHeartbeats 4000000 in
set_option maxRecDepth 100000 in
/-- Row.addPart of nothing, room 12 -/
theorem c2_addPart0_12 (l : Launch) (g : GE) (sz : Nat) (h0 : Nat) (b : Nat) (fr : Nat) : Met l yX2_addPart (.code yX2_addPart cX2_addPart 5 none :: WL) { frames := 1, cells := 0, slots := 0, locals := 13 } (PR g [.ref h0, .ref fr, .int 0, .int 0] [(h0, .inr (2, [.int 12, .ref b, .int 0]))] sz) (QV g [(h0, .inr (2, [.int 12, .ref b, .int 0]))] sz (fun _ : Unit => [(h0, .inr (2, [.int 12, .ref b, .int 0]))])) 0 0 (va_A [(h0, .inr (2, [.int 12, .ref b, .int 0]))] sz) := by
  refine k_start (by decide) (Nat.le_of_ble_eq_true rfl) ?_
  intro pp ee s m bb mm cd A H locs hAe X h ls hl
  have X : CX g pp s m mm cd _ cX2_addPart 5 RX2 "addPart" none A := X
  have hx := X.1
  have hb := X.2.1
  have hl : lv_has ls 5 [(0, .ref h0), (1, .ref fr), (2, .int 0), (3, .int 0)] := hl
  refine lv_iload_n hx hb dX2_addPart_0 rfl (lv_at hl 3 rfl) ?_
  refine lv_iload_n hx hb dX2_addPart_1 rfl (lv_at hl 2 rfl) ?_
  refine lv_isub hx hb dX2_addPart_2 ?_
  refine r_vi (y := 0) (by decide) ?_
  refine lv_aload_n hx hb dX2_addPart_3 rfl (lv_at hl 0 rfl) ?_
  refine r_get X h kl2 0 0 rfl (by decide) lk_X2_19 rfl dX2_addPart_4 ?_
  refine lv_aload_n hx hb dX2_addPart_7 rfl (lv_at hl 0 rfl) ?_
  refine r_get X h kl2 0 2 rfl (by decide) lk_X2_15 rfl dX2_addPart_8 ?_
  refine lv_isub hx hb dX2_addPart_11 ?_
  refine r_vi (y := 12) (by decide) ?_
  refine r_min X (v := 0) lk_X2_30 lk_min_s lk_min_i lk_min_c hl.1 (Nat.le_of_ble_eq_true rfl) (Nat.le_of_ble_eq_true rfl) (Nat.le_of_ble_eq_true rfl) (Nat.le_of_ble_eq_true rfl) dX2_addPart_12 (by decide) ?_
  refine lv_istore (lv' := [(4, .int 0), (0, .ref h0), (1, .ref fr), (2, .int 0), (3, .int 0)]) hx hb dX2_addPart_15 hl (by decide) rfl (fun ls hl => ?_)
  refine lv_iload hx hb dX2_addPart_17 (lv_at hl 0 rfl) ?_
  refine lv_if_le (tgt := 34) hx hb dX2_addPart_19 (by decide) (fun c_1 => ?_) (fun c_1 => absurd (by decide) c_1)
  exact r_vret X h hAe () [0] rfl rfl 0 0 (Nat.le_of_ble_eq_true rfl) (Nat.le_of_ble_eq_true rfl) dX2_addPart_34

set_option maxHeartbeats 4000000 in
set_option maxRecDepth 100000 in
/-- Row.addPart of nothing behind one byte -/
theorem c2_addPart11 (l : Launch) (g : GE) (sz : Nat) (h0 : Nat) (b : Nat) (fr : Nat) : Met l yX2_addPart (.code yX2_addPart cX2_addPart 5 none :: WL) { frames := 1, cells := 0, slots := 0, locals := 13 } (PR g [.ref h0, .ref fr, .int 1, .int 1] [(h0, .inr (2, [.int 241, .ref b, .int 1]))] sz) (QV g [(h0, .inr (2, [.int 241, .ref b, .int 1]))] sz (fun _ : Unit => [(h0, .inr (2, [.int 241, .ref b, .int 1]))])) 0 0 (va_A [(h0, .inr (2, [.int 241, .ref b, .int 1]))] sz) := by
  refine k_start (by decide) (Nat.le_of_ble_eq_true rfl) ?_
  intro pp ee s m bb mm cd A H locs hAe X h ls hl
  have X : CX g pp s m mm cd _ cX2_addPart 5 RX2 "addPart" none A := X
  have hx := X.1
  have hb := X.2.1
  have hl : lv_has ls 5 [(0, .ref h0), (1, .ref fr), (2, .int 1), (3, .int 1)] := hl
  refine lv_iload_n hx hb dX2_addPart_0 rfl (lv_at hl 3 rfl) ?_
  refine lv_iload_n hx hb dX2_addPart_1 rfl (lv_at hl 2 rfl) ?_
  refine lv_isub hx hb dX2_addPart_2 ?_
  refine r_vi (y := 0) (by decide) ?_
  refine lv_aload_n hx hb dX2_addPart_3 rfl (lv_at hl 0 rfl) ?_
  refine r_get X h kl2 0 0 rfl (by decide) lk_X2_19 rfl dX2_addPart_4 ?_
  refine lv_aload_n hx hb dX2_addPart_7 rfl (lv_at hl 0 rfl) ?_
  refine r_get X h kl2 0 2 rfl (by decide) lk_X2_15 rfl dX2_addPart_8 ?_
  refine lv_isub hx hb dX2_addPart_11 ?_
  refine r_vi (y := 240) (by decide) ?_
  refine r_min X (v := 0) lk_X2_30 lk_min_s lk_min_i lk_min_c hl.1 (Nat.le_of_ble_eq_true rfl) (Nat.le_of_ble_eq_true rfl) (Nat.le_of_ble_eq_true rfl) (Nat.le_of_ble_eq_true rfl) dX2_addPart_12 (by decide) ?_
  refine lv_istore (lv' := [(4, .int 0), (0, .ref h0), (1, .ref fr), (2, .int 1), (3, .int 1)]) hx hb dX2_addPart_15 hl (by decide) rfl (fun ls hl => ?_)
  refine lv_iload hx hb dX2_addPart_17 (lv_at hl 0 rfl) ?_
  refine lv_if_le (tgt := 34) hx hb dX2_addPart_19 (by decide) (fun c_1 => ?_) (fun c_1 => absurd (by decide) c_1)
  exact r_vret X h hAe () [0] rfl rfl 0 0 (Nat.le_of_ble_eq_true rfl) (Nat.le_of_ble_eq_true rfl) dX2_addPart_34

set_option maxHeartbeats 4000000 in
set_option maxRecDepth 100000 in
/-- Row.addPart of one byte -/
theorem c2_addPart01 (l : Launch) (g : GE) (sz : Nat) (h0 : Nat) (b : Nat) (fr : Nat) (fb : Nat) (fm : Int32) (f : Nat → Int32) (hf : ∀ i, i < Int32.toNatClampNeg 1 → fits .byte (.int (f (Int32.toNatClampNeg 0 + i))) = true) : Met l yX2_addPart (.code yX2_addPart cX2_addPart 5 none :: WL) { frames := 1, cells := 1, slots := 16, locals := 40 } (PR g [.ref h0, .ref fr, .int 0, .int 1] [(h0, .inr (2, [.int 241, .ref b, .int 0])), (b, .inl (g.2 0, 0, .inl (fun _ => 0))), (fr, .inr (2, [.int fm, .ref fb, .int 1])), (fb, .inl (g.2 0, 16, .inl f))] sz) (QV g [(h0, .inr (2, [.int 241, .ref b, .int 0])), (b, .inl (g.2 0, 0, .inl (fun _ => 0))), (fr, .inr (2, [.int fm, .ref fb, .int 1])), (fb, .inl (g.2 0, 16, .inl f))] sz (fun u : Nat => [(h0, .inr (2, [.int 241, .ref u, .int 1])), (fr, .inr (2, [.int fm, .ref fb, .int 1])), (fb, .inl (g.2 0, 16, .inl f))])) 1 16 (va_A [(h0, .inr (2, [.int 241, .ref b, .int 0])), (b, .inl (g.2 0, 0, .inl (fun _ => 0))), (fr, .inr (2, [.int fm, .ref fb, .int 1])), (fb, .inl (g.2 0, 16, .inl f))] sz) := by
  refine k_start (by decide) (Nat.le_of_ble_eq_true rfl) ?_
  intro pp ee s m bb mm cd A H locs hAe X h ls hl
  have X : CX g pp s m mm cd _ cX2_addPart 5 RX2 "addPart" none A := X
  have hx := X.1
  have hb := X.2.1
  have hl : lv_has ls 5 [(0, .ref h0), (1, .ref fr), (2, .int 0), (3, .int 1)] := hl
  refine lv_iload_n hx hb dX2_addPart_0 rfl (lv_at hl 3 rfl) ?_
  refine lv_iload_n hx hb dX2_addPart_1 rfl (lv_at hl 2 rfl) ?_
  refine lv_isub hx hb dX2_addPart_2 ?_
  refine r_vi (y := 1) (by decide) ?_
  refine lv_aload_n hx hb dX2_addPart_3 rfl (lv_at hl 0 rfl) ?_
  refine r_get X h kl2 0 0 rfl (by decide) lk_X2_19 rfl dX2_addPart_4 ?_
  refine lv_aload_n hx hb dX2_addPart_7 rfl (lv_at hl 0 rfl) ?_
  refine r_get X h kl2 0 2 rfl (by decide) lk_X2_15 rfl dX2_addPart_8 ?_
  refine lv_isub hx hb dX2_addPart_11 ?_
  refine r_vi (y := 241) (by decide) ?_
  refine r_min X (v := 1) lk_X2_30 lk_min_s lk_min_i lk_min_c hl.1 (Nat.le_of_ble_eq_true rfl) (Nat.le_of_ble_eq_true rfl) (Nat.le_of_ble_eq_true rfl) (Nat.le_of_ble_eq_true rfl) dX2_addPart_12 (by decide) ?_
  refine lv_istore (lv' := [(4, .int 1), (0, .ref h0), (1, .ref fr), (2, .int 0), (3, .int 1)]) hx hb dX2_addPart_15 hl (by decide) rfl (fun ls hl => ?_)
  refine lv_iload hx hb dX2_addPart_17 (lv_at hl 0 rfl) ?_
  refine lv_if_le (tgt := 34) hx hb dX2_addPart_19 (by decide) (fun c_1 => absurd c_1 (by decide)) (fun c_1 => ?_)
  refine lv_iload_n hx hb dX2_addPart_22 rfl (lv_at hl 3 rfl) ?_
  refine lv_if_lt (tgt := 34) hx hb dX2_addPart_23 (by decide) (fun c_2 => absurd c_2 (by decide)) (fun c_2 => ?_)
  refine lv_iload_n hx hb dX2_addPart_26 rfl (lv_at hl 4 rfl) ?_
  refine lv_aload_n hx hb dX2_addPart_27 rfl (lv_at hl 2 rfl) ?_
  refine r_get X h kl2 2 2 rfl (by decide) lk_X2_15 rfl dX2_addPart_28 ?_
  refine lv_icmp_le (tgt := 35) hx hb dX2_addPart_31 (by decide) (fun c_3 => ?_) (fun c_3 => absurd (by decide) c_3)
  refine lv_aload_n hx hb dX2_addPart_35 rfl (lv_at hl 1 rfl) ?_
  refine lv_aload_n hx hb dX2_addPart_36 rfl (lv_at hl 1 rfl) ?_
  refine r_get X h kl2 0 2 rfl (by decide) lk_X2_15 rfl dX2_addPart_37 ?_
  refine lv_iload hx hb dX2_addPart_40 (lv_at hl 0 rfl) ?_
  refine lv_iadd hx hb dX2_addPart_42 ?_
  refine r_vi (y := 1) (by decide) ?_
  refine k_v X h [0, 1] [2, 3] (wr := [(fr, .inr (2, [.int fm, .ref fb, .int 1])), (fb, .inl (g.2 0, 16, .inl f))]) rfl rfl rfl (by decide) 1 16 (Nat.le_of_ble_eq_true rfl) (Nat.le_of_ble_eq_true rfl) (k_runV X h (As := [.int 1]) (rest := []) (c2_widen_241 l g H.size h0 b) cw_X2_22 [0, 1] rfl rfl 0 kl2 rfl rfl rfl (Nat.le_of_ble_eq_true rfl) (Nat.le_of_ble_eq_true rfl) rfl hl.1 rfl (Nat.le_of_ble_eq_true rfl) dX2_addPart_43 (Nat.le_of_ble_eq_true rfl) (Nat.le_of_ble_eq_true rfl)) (fun u9 H locs h => ?_)
  obtain ⟨u_4, rfl⟩ : ∃ z, z = u9 := ⟨_, rfl⟩
  have h : ST g A s [(fr, .inr (2, [.int fm, .ref fb, .int 1])), (fb, .inl (g.2 0, 16, .inl f)), (h0, .inr (2, [.int 241, .ref u_4, .int 0])), (u_4, .inl (g.2 0, 16, .inl (fun _ => 0)))] H locs := h
  refine lv_aload_n hx hb dX2_addPart_46 rfl (lv_at hl 2 rfl) ?_
  refine r_get X h kl2 0 1 rfl (by decide) lk_X2_9 rfl dX2_addPart_47 ?_
  refine lv_iload_n hx hb dX2_addPart_50 rfl (lv_at hl 3 rfl) ?_
  refine lv_aload_n hx hb dX2_addPart_51 rfl (lv_at hl 1 rfl) ?_
  refine r_get X h kl2 2 1 rfl (by decide) lk_X2_9 rfl dX2_addPart_52 ?_
  refine lv_aload_n hx hb dX2_addPart_55 rfl (lv_at hl 1 rfl) ?_
  refine r_get X h kl2 2 2 rfl (by decide) lk_X2_15 rfl dX2_addPart_56 ?_
  refine lv_iload hx hb dX2_addPart_59 (lv_at hl 0 rfl) ?_
  refine r_copyb X h lk_X2_36 lk_cp_n lk_cp_s lk_cp_i hl.1 1 3 rfl rfl (by decide) (by decide) (by decide) (by decide) (by decide) hf (Nat.le_of_ble_eq_true rfl) (Nat.le_of_ble_eq_true rfl) dX2_addPart_61 (fun f_5 H locs h => ?_)
  have h : ST g A s [(fr, .inr (2, [.int fm, .ref fb, .int 1])), (fb, .inl (g.2 0, 16, .inl f)), (h0, .inr (2, [.int 241, .ref u_4, .int 0])), (u_4, .inl (g.2 0, 16, .inl f_5))] H locs := h
  refine lv_aload_n hx hb dX2_addPart_64 rfl (lv_at hl 1 rfl) ?_
  refine lv_dup hx hb dX2_addPart_65 rfl ?_
  refine r_get X h kl2 2 2 rfl (by decide) lk_X2_15 rfl dX2_addPart_66 ?_
  refine lv_iload hx hb dX2_addPart_69 (lv_at hl 0 rfl) ?_
  refine lv_iadd hx hb dX2_addPart_71 ?_
  refine r_vi (y := 1) (by decide) ?_
  refine r_put X h kl2 2 2 (v := .int 1) rfl (by decide) lk_X2_15 rfl rfl rfl (Nat.le_of_ble_eq_true rfl) dX2_addPart_72 (fun H locs h => ?_)
  have h : ST g A s [(fr, .inr (2, [.int fm, .ref fb, .int 1])), (fb, .inl (g.2 0, 16, .inl f)), (h0, .inr (2, [.int 241, .ref u_4, .int 1])), (u_4, .inl (g.2 0, 16, .inl f_5))] H locs := h
  exact r_vret X h hAe u_4 [2, 0, 1] rfl rfl 1 16 (Nat.le_of_ble_eq_true rfl) (Nat.le_of_ble_eq_true rfl) dX2_addPart_75

set_option maxHeartbeats 4000000 in
set_option maxRecDepth 100000 in
/-- Row.copyOf an empty row, room 241 -/
theorem c2_copyOf_241 (l : Launch) (g : GE) (sz : Nat) (h0 : Nat) (b : Nat) (size : Int32) (fr : Nat) (fm : Int32) (fb : Nat) : Met l yX2_copyOf (.code yX2_copyOf cX2_copyOf 2 none :: WL) { frames := 2, cells := 0, slots := 0, locals := 37 } (PR g [.ref h0, .ref fr] [(h0, .inr (2, [.int 241, .ref b, .int size])), (fr, .inr (2, [.int fm, .ref fb, .int 0]))] sz) (QV g [(h0, .inr (2, [.int 241, .ref b, .int size])), (fr, .inr (2, [.int fm, .ref fb, .int 0]))] sz (fun _ : Unit => [(h0, .inr (2, [.int 241, .ref b, .int 0])), (fr, .inr (2, [.int fm, .ref fb, .int 0]))])) 0 0 (va_A [(h0, .inr (2, [.int 241, .ref b, .int size])), (fr, .inr (2, [.int fm, .ref fb, .int 0]))] sz) := by
  refine k_start (by decide) (Nat.le_of_ble_eq_true rfl) ?_
  intro pp ee s m bb mm cd A H locs hAe X h ls hl
  have X : CX g pp s m mm cd _ cX2_copyOf 2 RX2 "copyOf" none A := X
  have hx := X.1
  have hb := X.2.1
  have hl : lv_has ls 2 [(0, .ref h0), (1, .ref fr)] := hl
  refine lv_aload_n hx hb dX2_copyOf_0 rfl (lv_at hl 0 rfl) ?_
  refine lv_iconst (v := 0) hx hb dX2_copyOf_1 (by decide) ?_
  refine r_put X h kl2 0 2 (v := .int 0) rfl (by decide) lk_X2_15 rfl rfl rfl (Nat.le_of_ble_eq_true rfl) dX2_copyOf_2 (fun H locs h => ?_)
  have h : ST g A s [(h0, .inr (2, [.int 241, .ref b, .int 0])), (fr, .inr (2, [.int fm, .ref fb, .int 0]))] H locs := h
  refine lv_aload_n hx hb dX2_copyOf_5 rfl (lv_at hl 0 rfl) ?_
  refine lv_aload_n hx hb dX2_copyOf_6 rfl (lv_at hl 1 rfl) ?_
  refine lv_iconst (v := 0) hx hb dX2_copyOf_7 (by decide) ?_
  refine lv_aload_n hx hb dX2_copyOf_8 rfl (lv_at hl 1 rfl) ?_
  refine r_get X h kl2 1 2 rfl (by decide) lk_X2_15 rfl dX2_copyOf_9 ?_
  refine k_v X h [0] [1] (wr := [(fr, .inr (2, [.int fm, .ref fb, .int 0]))]) rfl rfl rfl (by decide) 0 0 (Nat.le_of_ble_eq_true rfl) (Nat.le_of_ble_eq_true rfl) (k_runV X h (As := [.ref fr, .int 0, .int 0]) (rest := []) (c2_addPart0_241 l g H.size h0 b fr) cw_X2_42 [0] rfl rfl 0 kl2 rfl rfl rfl (Nat.le_of_ble_eq_true rfl) (Nat.le_of_ble_eq_true rfl) rfl hl.1 rfl (Nat.le_of_ble_eq_true rfl) dX2_copyOf_12 (Nat.le_of_ble_eq_true rfl) (Nat.le_of_ble_eq_true rfl)) (fun _ H locs h => ?_)
  have h : ST g A s [(fr, .inr (2, [.int fm, .ref fb, .int 0])), (h0, .inr (2, [.int 241, .ref b, .int 0]))] H locs := h
  exact r_vret X h hAe () [1, 0] rfl rfl 0 0 (Nat.le_of_ble_eq_true rfl) (Nat.le_of_ble_eq_true rfl) dX2_copyOf_15

set_option maxHeartbeats 4000000 in
set_option maxRecDepth 100000 in
/-- Row.copyOf an empty row, room 12 -/
theorem c2_copyOf_12 (l : Launch) (g : GE) (sz : Nat) (h0 : Nat) (b : Nat) (size : Int32) (fr : Nat) (fm : Int32) (fb : Nat) : Met l yX2_copyOf (.code yX2_copyOf cX2_copyOf 2 none :: WL) { frames := 2, cells := 0, slots := 0, locals := 37 } (PR g [.ref h0, .ref fr] [(h0, .inr (2, [.int 12, .ref b, .int size])), (fr, .inr (2, [.int fm, .ref fb, .int 0]))] sz) (QV g [(h0, .inr (2, [.int 12, .ref b, .int size])), (fr, .inr (2, [.int fm, .ref fb, .int 0]))] sz (fun _ : Unit => [(h0, .inr (2, [.int 12, .ref b, .int 0])), (fr, .inr (2, [.int fm, .ref fb, .int 0]))])) 0 0 (va_A [(h0, .inr (2, [.int 12, .ref b, .int size])), (fr, .inr (2, [.int fm, .ref fb, .int 0]))] sz) := by
  refine k_start (by decide) (Nat.le_of_ble_eq_true rfl) ?_
  intro pp ee s m bb mm cd A H locs hAe X h ls hl
  have X : CX g pp s m mm cd _ cX2_copyOf 2 RX2 "copyOf" none A := X
  have hx := X.1
  have hb := X.2.1
  have hl : lv_has ls 2 [(0, .ref h0), (1, .ref fr)] := hl
  refine lv_aload_n hx hb dX2_copyOf_0 rfl (lv_at hl 0 rfl) ?_
  refine lv_iconst (v := 0) hx hb dX2_copyOf_1 (by decide) ?_
  refine r_put X h kl2 0 2 (v := .int 0) rfl (by decide) lk_X2_15 rfl rfl rfl (Nat.le_of_ble_eq_true rfl) dX2_copyOf_2 (fun H locs h => ?_)
  have h : ST g A s [(h0, .inr (2, [.int 12, .ref b, .int 0])), (fr, .inr (2, [.int fm, .ref fb, .int 0]))] H locs := h
  refine lv_aload_n hx hb dX2_copyOf_5 rfl (lv_at hl 0 rfl) ?_
  refine lv_aload_n hx hb dX2_copyOf_6 rfl (lv_at hl 1 rfl) ?_
  refine lv_iconst (v := 0) hx hb dX2_copyOf_7 (by decide) ?_
  refine lv_aload_n hx hb dX2_copyOf_8 rfl (lv_at hl 1 rfl) ?_
  refine r_get X h kl2 1 2 rfl (by decide) lk_X2_15 rfl dX2_copyOf_9 ?_
  refine k_v X h [0] [1] (wr := [(fr, .inr (2, [.int fm, .ref fb, .int 0]))]) rfl rfl rfl (by decide) 0 0 (Nat.le_of_ble_eq_true rfl) (Nat.le_of_ble_eq_true rfl) (k_runV X h (As := [.ref fr, .int 0, .int 0]) (rest := []) (c2_addPart0_12 l g H.size h0 b fr) cw_X2_42 [0] rfl rfl 0 kl2 rfl rfl rfl (Nat.le_of_ble_eq_true rfl) (Nat.le_of_ble_eq_true rfl) rfl hl.1 rfl (Nat.le_of_ble_eq_true rfl) dX2_copyOf_12 (Nat.le_of_ble_eq_true rfl) (Nat.le_of_ble_eq_true rfl)) (fun _ H locs h => ?_)
  have h : ST g A s [(fr, .inr (2, [.int fm, .ref fb, .int 0])), (h0, .inr (2, [.int 12, .ref b, .int 0]))] H locs := h
  exact r_vret X h hAe () [1, 0] rfl rfl 0 0 (Nat.le_of_ble_eq_true rfl) (Nat.le_of_ble_eq_true rfl) dX2_copyOf_15

set_option maxHeartbeats 4000000 in
set_option maxRecDepth 100000 in
/-- Row.insert(0, v) into an empty row -/
theorem c2_insert (l : Launch) (g : GE) (sz : Nat) (h0 : Nat) (b : Nat) (v : Int32) : Met l yX2_insert (.code yX2_insert cX2_insert 4 none :: WL) { frames := 2, cells := 1, slots := 16, locals := 45 } (PR g [.ref h0, .int 0, .int v] [(h0, .inr (2, [.int 241, .ref b, .int 0])), (b, .inl (g.2 0, 0, .inl (fun _ => 0)))] sz) (QV g [(h0, .inr (2, [.int 241, .ref b, .int 0])), (b, .inl (g.2 0, 0, .inl (fun _ => 0)))] sz (fun u : Nat => [(h0, .inr (2, [.int 241, .ref u, .int 1])), (u, .inl (g.2 0, 16, .inl (upd (upd (fun _ => 0) 0 (vp_nar .byte (Int8.toInt32 (Int32.toInt8 v)))) 0 (vp_nar .byte (Int8.toInt32 (Int32.toInt8 v))))))])) 1 16 (va_A [(h0, .inr (2, [.int 241, .ref b, .int 0])), (b, .inl (g.2 0, 0, .inl (fun _ => 0)))] sz) := by
  refine k_start (by decide) (Nat.le_of_ble_eq_true rfl) ?_
  intro pp ee s m bb mm cd A H locs hAe X h ls hl
  have X : CX g pp s m mm cd _ cX2_insert 4 RX2 "insert" none A := X
  have hx := X.1
  have hb := X.2.1
  have hl : lv_has ls 4 [(0, .ref h0), (1, .int 0), (2, .int v)] := hl
  refine lv_iload_n hx hb dX2_insert_0 rfl (lv_at hl 1 rfl) ?_
  refine lv_if_lt (tgt := 23) hx hb dX2_insert_1 (by decide) (fun c_1 => absurd c_1 (by decide)) (fun c_1 => ?_)
  refine lv_iload_n hx hb dX2_insert_4 rfl (lv_at hl 1 rfl) ?_
  refine lv_aload_n hx hb dX2_insert_5 rfl (lv_at hl 0 rfl) ?_
  refine r_get X h kl2 0 2 rfl (by decide) lk_X2_15 rfl dX2_insert_6 ?_
  refine lv_icmp_gt (tgt := 23) hx hb dX2_insert_9 (by decide) (fun c_2 => absurd c_2 (by decide)) (fun c_2 => ?_)
  refine lv_aload_n hx hb dX2_insert_12 rfl (lv_at hl 0 rfl) ?_
  refine r_get X h kl2 0 2 rfl (by decide) lk_X2_15 rfl dX2_insert_13 ?_
  refine lv_aload_n hx hb dX2_insert_16 rfl (lv_at hl 0 rfl) ?_
  refine r_get X h kl2 0 0 rfl (by decide) lk_X2_19 rfl dX2_insert_17 ?_
  refine lv_icmp_lt (tgt := 24) hx hb dX2_insert_20 (by decide) (fun c_3 => ?_) (fun c_3 => absurd (by decide) c_3)
  refine lv_aload_n hx hb dX2_insert_24 rfl (lv_at hl 0 rfl) ?_
  refine lv_iload_n hx hb dX2_insert_25 rfl (lv_at hl 2 rfl) ?_
  refine k_v X h [0, 1] [] (wr := []) rfl rfl rfl (by decide) 1 16 (Nat.le_of_ble_eq_true rfl) (Nat.le_of_ble_eq_true rfl) (k_runV X h (As := [.int v]) (rest := []) (c2_add_241 l g H.size h0 b v) cw_X2_46 [0, 1] rfl rfl 0 kl2 rfl rfl rfl (Nat.le_of_ble_eq_true rfl) (Nat.le_of_ble_eq_true rfl) rfl hl.1 rfl (Nat.le_of_ble_eq_true rfl) dX2_insert_26 (Nat.le_of_ble_eq_true rfl) (Nat.le_of_ble_eq_true rfl)) (fun u9 H locs h => ?_)
  obtain ⟨u_4, rfl⟩ : ∃ z, z = u9 := ⟨_, rfl⟩
  have h : ST g A s [(h0, .inr (2, [.int 241, .ref u_4, .int 1])), (u_4, .inl (g.2 0, 16, .inl (upd (fun _ => 0) 0 (vp_nar .byte (Int8.toInt32 (Int32.toInt8 v))))))] H locs := h
  refine lv_aload_n hx hb dX2_insert_29 rfl (lv_at hl 0 rfl) ?_
  refine r_get X h kl2 0 2 rfl (by decide) lk_X2_15 rfl dX2_insert_30 ?_
  refine lv_iconst (v := 1) hx hb dX2_insert_33 (by decide) ?_
  refine lv_isub hx hb dX2_insert_34 ?_
  refine r_vi (y := 0) (by decide) ?_
  refine lv_istore_n (lv' := [(3, .int 0), (0, .ref h0), (1, .int 0), (2, .int v)]) hx hb dX2_insert_35 rfl hl (by decide) rfl (fun ls hl => ?_)
  refine lv_iload_n hx hb dX2_insert_36 rfl (lv_at hl 0 rfl) ?_
  refine lv_iload_n hx hb dX2_insert_37 rfl (lv_at hl 2 rfl) ?_
  refine lv_icmp_le (tgt := 59) hx hb dX2_insert_38 (by decide) (fun c_5 => ?_) (fun c_5 => absurd (by decide) c_5)
  refine lv_aload_n hx hb dX2_insert_59 rfl (lv_at hl 1 rfl) ?_
  refine lv_iload_n hx hb dX2_insert_60 rfl (lv_at hl 2 rfl) ?_
  refine lv_iload_n hx hb dX2_insert_61 rfl (lv_at hl 3 rfl) ?_
  refine k_v X h [0, 1] [] (wr := []) rfl rfl rfl (by decide) 1 16 (Nat.le_of_ble_eq_true rfl) (Nat.le_of_ble_eq_true rfl) (k_runV X h (As := [.int 0, .int v]) (rest := []) (c2_put0 l g H.size h0 241 u_4 ((upd (fun _ => 0) 0 (vp_nar .byte (Int8.toInt32 (Int32.toInt8 v))))) v) cw_X2_26 [0, 1] rfl rfl 0 kl2 rfl rfl rfl (Nat.le_of_ble_eq_true rfl) (Nat.le_of_ble_eq_true rfl) rfl hl.1 rfl (Nat.le_of_ble_eq_true rfl) dX2_insert_62 (Nat.le_of_ble_eq_true rfl) (Nat.le_of_ble_eq_true rfl)) (fun _ H locs h => ?_)
  have h : ST g A s [(h0, .inr (2, [.int 241, .ref u_4, .int 1])), (u_4, .inl (g.2 0, 16, .inl (upd (upd (fun _ => 0) 0 (vp_nar .byte (Int8.toInt32 (Int32.toInt8 v)))) 0 (vp_nar .byte (Int8.toInt32 (Int32.toInt8 v))))))] H locs := h
  exact r_vret X h hAe u_4 [0, 1] rfl rfl 1 16 (Nat.le_of_ble_eq_true rfl) (Nat.le_of_ble_eq_true rfl) dX2_insert_65
