set_option maxHeartbeats 4000000 in
set_option maxRecDepth 100000 in
/-- told of a fresh object, case w0 -/
theorem c6_told_w0 (l : Launch) (g : GE) (sz : Nat) (x : Nat) (tx : Nat) (lk : Nat) (pa : Nat) (nO : Nat) (dO : Nat) : Met l yX6_told (.code yX6_told cX6_told 2 (some .int) :: WL) { frames := 0, cells := 0, slots := 0, locals := 0 } (PR g [.ref x, .int 0] [(x, .inr (6, [.ref tx, .ref lk, .ref pa, .int 0, .ref nO, .ref dO, .int 0, .int 0, .int 0]))] sz) (QI g [(x, .inr (6, [.ref tx, .ref lk, .ref pa, .int 0, .ref nO, .ref dO, .int 0, .int 0, .int 0]))] sz 0 (fun _ : Unit => [(x, .inr (6, [.ref tx, .ref lk, .ref pa, .int 0, .ref nO, .ref dO, .int 0, .int 0, .int 0]))])) 0 0 (va_A [(x, .inr (6, [.ref tx, .ref lk, .ref pa, .int 0, .ref nO, .ref dO, .int 0, .int 0, .int 0]))] sz) := by
  refine k_start (by decide) (Nat.le_of_ble_eq_true rfl) ?_
  intro pp ee s m bb mm cd A H locs hAe X h ls hl
  have X : CX g pp s m mm cd _ cX6_told 2 RX6 "told" (some .int) A := X
  have hx := X.1
  have hb := X.2.1
  have hl : lv_has ls 2 [(0, .ref x), (1, .int 0)] := hl
  refine lv_iload_n hx hb dX6_told_0 rfl (lv_at hl 1 rfl) ?_
  refine lv_tableIn (tgt := 36) hx hb dX6_told_1 (by decide) (by decide) (by rfl) (by decide) ?_
  refine lv_aload_n hx hb dX6_told_36 rfl (lv_at hl 0 rfl) ?_
  refine r_get X h kl6 0 6 rfl (by decide) lk_X6_32 rfl dX6_told_37 ?_
  exact r_iret X h hAe () [0] rfl rfl 0 0 (Nat.le_of_ble_eq_true rfl) (Nat.le_of_ble_eq_true rfl) rfl dX6_told_40

set_option maxHeartbeats 4000000 in
set_option maxRecDepth 100000 in
/-- told of a fresh object, case w1 -/
theorem c6_told_w1 (l : Launch) (g : GE) (sz : Nat) (x : Nat) (tx : Nat) (lk : Nat) (pa : Nat) (nO : Nat) (dO : Nat) : Met l yX6_told (.code yX6_told cX6_told 2 (some .int) :: WL) { frames := 0, cells := 0, slots := 0, locals := 0 } (PR g [.ref x, .int 1] [(x, .inr (6, [.ref tx, .ref lk, .ref pa, .int 0, .ref nO, .ref dO, .int 0, .int 0, .int 0]))] sz) (QI g [(x, .inr (6, [.ref tx, .ref lk, .ref pa, .int 0, .ref nO, .ref dO, .int 0, .int 0, .int 0]))] sz 0 (fun _ : Unit => [(x, .inr (6, [.ref tx, .ref lk, .ref pa, .int 0, .ref nO, .ref dO, .int 0, .int 0, .int 0]))])) 0 0 (va_A [(x, .inr (6, [.ref tx, .ref lk, .ref pa, .int 0, .ref nO, .ref dO, .int 0, .int 0, .int 0]))] sz) := by
  refine k_start (by decide) (Nat.le_of_ble_eq_true rfl) ?_
  intro pp ee s m bb mm cd A H locs hAe X h ls hl
  have X : CX g pp s m mm cd _ cX6_told 2 RX6 "told" (some .int) A := X
  have hx := X.1
  have hb := X.2.1
  have hl : lv_has ls 2 [(0, .ref x), (1, .int 1)] := hl
  refine lv_iload_n hx hb dX6_told_0 rfl (lv_at hl 1 rfl) ?_
  refine lv_tableIn (tgt := 41) hx hb dX6_told_1 (by decide) (by decide) (by rfl) (by decide) ?_
  refine lv_aload_n hx hb dX6_told_41 rfl (lv_at hl 0 rfl) ?_
  refine r_get X h kl6 0 7 rfl (by decide) lk_X6_35 rfl dX6_told_42 ?_
  exact r_iret X h hAe () [0] rfl rfl 0 0 (Nat.le_of_ble_eq_true rfl) (Nat.le_of_ble_eq_true rfl) rfl dX6_told_45

set_option maxHeartbeats 4000000 in
set_option maxRecDepth 100000 in
/-- told of a fresh object, case w2 -/
theorem c6_told_w2 (l : Launch) (g : GE) (sz : Nat) (x : Nat) (tx : Nat) (lk : Nat) (pa : Nat) (nO : Nat) (dO : Nat) : Met l yX6_told (.code yX6_told cX6_told 2 (some .int) :: WL) { frames := 0, cells := 0, slots := 0, locals := 0 } (PR g [.ref x, .int 2] [(x, .inr (6, [.ref tx, .ref lk, .ref pa, .int 0, .ref nO, .ref dO, .int 0, .int 0, .int 0]))] sz) (QI g [(x, .inr (6, [.ref tx, .ref lk, .ref pa, .int 0, .ref nO, .ref dO, .int 0, .int 0, .int 0]))] sz 0 (fun _ : Unit => [(x, .inr (6, [.ref tx, .ref lk, .ref pa, .int 0, .ref nO, .ref dO, .int 0, .int 0, .int 0]))])) 0 0 (va_A [(x, .inr (6, [.ref tx, .ref lk, .ref pa, .int 0, .ref nO, .ref dO, .int 0, .int 0, .int 0]))] sz) := by
  refine k_start (by decide) (Nat.le_of_ble_eq_true rfl) ?_
  intro pp ee s m bb mm cd A H locs hAe X h ls hl
  have X : CX g pp s m mm cd _ cX6_told 2 RX6 "told" (some .int) A := X
  have hx := X.1
  have hb := X.2.1
  have hl : lv_has ls 2 [(0, .ref x), (1, .int 2)] := hl
  refine lv_iload_n hx hb dX6_told_0 rfl (lv_at hl 1 rfl) ?_
  refine lv_tableIn (tgt := 46) hx hb dX6_told_1 (by decide) (by decide) (by rfl) (by decide) ?_
  refine lv_aload_n hx hb dX6_told_46 rfl (lv_at hl 0 rfl) ?_
  refine r_get X h kl6 0 8 rfl (by decide) lk_X6_38 rfl dX6_told_47 ?_
  exact r_iret X h hAe () [0] rfl rfl 0 0 (Nat.le_of_ble_eq_true rfl) (Nat.le_of_ble_eq_true rfl) rfl dX6_told_50

set_option maxHeartbeats 4000000 in
set_option maxRecDepth 100000 in
/-- told of a fresh object, case w3 -/
theorem c6_told_w3 (l : Launch) (g : GE) (sz : Nat) (x : Nat) (tx : Nat) (lk : Nat) (pa : Nat) (nO : Nat) (dO : Nat) (txb : Nat) : Met l yX6_told (.code yX6_told cX6_told 2 (some .int) :: WL) { frames := 1, cells := 0, slots := 0, locals := 20 } (PR g [.ref x, .int 3] [(x, .inr (6, [.ref tx, .ref lk, .ref pa, .int 0, .ref nO, .ref dO, .int 0, .int 0, .int 0])), (tx, .inr (2, [.int 120, .ref txb, .int 0]))] sz) (QI g [(x, .inr (6, [.ref tx, .ref lk, .ref pa, .int 0, .ref nO, .ref dO, .int 0, .int 0, .int 0])), (tx, .inr (2, [.int 120, .ref txb, .int 0]))] sz 0 (fun _ : Unit => [(x, .inr (6, [.ref tx, .ref lk, .ref pa, .int 0, .ref nO, .ref dO, .int 0, .int 0, .int 0])), (tx, .inr (2, [.int 120, .ref txb, .int 0]))])) 0 0 (va_A [(x, .inr (6, [.ref tx, .ref lk, .ref pa, .int 0, .ref nO, .ref dO, .int 0, .int 0, .int 0])), (tx, .inr (2, [.int 120, .ref txb, .int 0]))] sz) := by
  refine k_start (by decide) (Nat.le_of_ble_eq_true rfl) ?_
  intro pp ee s m bb mm cd A H locs hAe X h ls hl
  have X : CX g pp s m mm cd _ cX6_told 2 RX6 "told" (some .int) A := X
  have hx := X.1
  have hb := X.2.1
  have hl : lv_has ls 2 [(0, .ref x), (1, .int 3)] := hl
  refine lv_iload_n hx hb dX6_told_0 rfl (lv_at hl 1 rfl) ?_
  refine lv_tableIn (tgt := 51) hx hb dX6_told_1 (by decide) (by decide) (by rfl) (by decide) ?_
  refine lv_aload_n hx hb dX6_told_51 rfl (lv_at hl 0 rfl) ?_
  refine r_get X h kl6 0 0 rfl (by decide) lk_X6_14 rfl dX6_told_52 ?_
  refine k_i X h [1] [0] (wr := [(x, .inr (6, [.ref tx, .ref lk, .ref pa, .int 0, .ref nO, .ref dO, .int 0, .int 0, .int 0]))]) rfl rfl rfl (by decide) 0 0 (Nat.le_of_ble_eq_true rfl) (Nat.le_of_ble_eq_true rfl) (k_runV X h (As := []) (rest := []) (c2_size l g H.size tx 120 txb 0) cw_X6_58 [1] rfl rfl 1 kl2 rfl rfl rfl (Nat.le_of_ble_eq_true rfl) (Nat.le_of_ble_eq_true rfl) rfl hl.1 rfl (Nat.le_of_ble_eq_true rfl) dX6_told_55 (Nat.le_of_ble_eq_true rfl) (Nat.le_of_ble_eq_true rfl)) (fun _ H locs h => ?_)
  have h : ST g A s [(x, .inr (6, [.ref tx, .ref lk, .ref pa, .int 0, .ref nO, .ref dO, .int 0, .int 0, .int 0])), (tx, .inr (2, [.int 120, .ref txb, .int 0]))] H locs := h
  exact r_iret X h hAe () [0, 1] rfl rfl 0 0 (Nat.le_of_ble_eq_true rfl) (Nat.le_of_ble_eq_true rfl) rfl dX6_told_58

set_option maxHeartbeats 4000000 in
set_option maxRecDepth 100000 in
/-- told of a fresh object, case w4 -/
theorem c6_told_w4 (l : Launch) (g : GE) (sz : Nat) (x : Nat) (tx : Nat) (lk : Nat) (pa : Nat) (nO : Nat) (dO : Nat) : Met l yX6_told (.code yX6_told cX6_told 2 (some .int) :: WL) { frames := 0, cells := 0, slots := 0, locals := 0 } (PR g [.ref x, .int 4] [(x, .inr (6, [.ref tx, .ref lk, .ref pa, .int 0, .ref nO, .ref dO, .int 0, .int 0, .int 0]))] sz) (QI g [(x, .inr (6, [.ref tx, .ref lk, .ref pa, .int 0, .ref nO, .ref dO, .int 0, .int 0, .int 0]))] sz 0 (fun _ : Unit => [(x, .inr (6, [.ref tx, .ref lk, .ref pa, .int 0, .ref nO, .ref dO, .int 0, .int 0, .int 0]))])) 0 0 (va_A [(x, .inr (6, [.ref tx, .ref lk, .ref pa, .int 0, .ref nO, .ref dO, .int 0, .int 0, .int 0]))] sz) := by
  refine k_start (by decide) (Nat.le_of_ble_eq_true rfl) ?_
  intro pp ee s m bb mm cd A H locs hAe X h ls hl
  have X : CX g pp s m mm cd _ cX6_told 2 RX6 "told" (some .int) A := X
  have hx := X.1
  have hb := X.2.1
  have hl : lv_has ls 2 [(0, .ref x), (1, .int 4)] := hl
  refine lv_iload_n hx hb dX6_told_0 rfl (lv_at hl 1 rfl) ?_
  refine lv_tableIn (tgt := 59) hx hb dX6_told_1 (by decide) (by decide) (by rfl) (by decide) ?_
  refine lv_aload_n hx hb dX6_told_59 rfl (lv_at hl 0 rfl) ?_
  refine r_get X h kl6 0 3 rfl (by decide) lk_X6_28 rfl dX6_told_60 ?_
  exact r_iret X h hAe () [0] rfl rfl 0 0 (Nat.le_of_ble_eq_true rfl) (Nat.le_of_ble_eq_true rfl) rfl dX6_told_63

set_option maxHeartbeats 4000000 in
set_option maxRecDepth 100000 in
/-- told of a fresh object, case lo -/
theorem c6_told_lo (l : Launch) (g : GE) (sz : Nat) (x : Nat) (tx : Nat) (lk : Nat) (pa : Nat) (nO : Nat) (dO : Nat) (c : Int32) (h1 : c < 0) (h3 : Int32.toInt c < 0 ∨ 4 < Int32.toInt c) : Met l yX6_told (.code yX6_told cX6_told 2 (some .int) :: WL) { frames := 1, cells := 0, slots := 0, locals := 21 } (PR g [.ref x, .int c] [(x, .inr (6, [.ref tx, .ref lk, .ref pa, .int 0, .ref nO, .ref dO, .int 0, .int 0, .int 0]))] sz) (QI g [(x, .inr (6, [.ref tx, .ref lk, .ref pa, .int 0, .ref nO, .ref dO, .int 0, .int 0, .int 0]))] sz (-2) (fun _ : Unit => [])) 0 0 (va_A [(x, .inr (6, [.ref tx, .ref lk, .ref pa, .int 0, .ref nO, .ref dO, .int 0, .int 0, .int 0]))] sz) := by
  refine k_start (by decide) (Nat.le_of_ble_eq_true rfl) ?_
  intro pp ee s m bb mm cd A H locs hAe X h ls hl
  have X : CX g pp s m mm cd _ cX6_told 2 RX6 "told" (some .int) A := X
  have hx := X.1
  have hb := X.2.1
  have hl : lv_has ls 2 [(0, .ref x), (1, .int c)] := hl
  refine lv_iload_n hx hb dX6_told_0 rfl (lv_at hl 1 rfl) ?_
  refine lv_tableOut (tgt := 64) hx hb dX6_told_1 h3 (by decide) ?_
  refine lv_aload_n hx hb dX6_told_64 rfl (lv_at hl 0 rfl) ?_
  refine lv_bipush (v := (-2)) hx hb dX6_told_65 (by decide) ?_
  refine k_i X h [0] [] (wr := []) rfl rfl rfl (by decide) 0 0 (Nat.le_of_ble_eq_true rfl) (Nat.le_of_ble_eq_true rfl) (k_runV X h (As := [.int (-2)]) (rest := []) (c6_refuse_bad l g H.size x tx lk pa nO dO) cw_X6_54 [0] rfl rfl 0 kl6 rfl rfl rfl (Nat.le_of_ble_eq_true rfl) (Nat.le_of_ble_eq_true rfl) rfl hl.1 rfl (Nat.le_of_ble_eq_true rfl) dX6_told_67 (Nat.le_of_ble_eq_true rfl) (Nat.le_of_ble_eq_true rfl)) (fun _ H locs h => ?_)
  have h : ST g A s [] H locs := h
  exact r_iret X h hAe () [] rfl rfl 0 0 (Nat.le_of_ble_eq_true rfl) (Nat.le_of_ble_eq_true rfl) rfl dX6_told_70

set_option maxHeartbeats 4000000 in
set_option maxRecDepth 100000 in
/-- told of a fresh object, case hi -/
theorem c6_told_hi (l : Launch) (g : GE) (sz : Nat) (x : Nat) (tx : Nat) (lk : Nat) (pa : Nat) (nO : Nat) (dO : Nat) (c : Int32) (h1 : ¬ c < 0) (h2 : 4 < c) (h3 : Int32.toInt c < 0 ∨ 4 < Int32.toInt c) : Met l yX6_told (.code yX6_told cX6_told 2 (some .int) :: WL) { frames := 1, cells := 0, slots := 0, locals := 21 } (PR g [.ref x, .int c] [(x, .inr (6, [.ref tx, .ref lk, .ref pa, .int 0, .ref nO, .ref dO, .int 0, .int 0, .int 0]))] sz) (QI g [(x, .inr (6, [.ref tx, .ref lk, .ref pa, .int 0, .ref nO, .ref dO, .int 0, .int 0, .int 0]))] sz (-2) (fun _ : Unit => [])) 0 0 (va_A [(x, .inr (6, [.ref tx, .ref lk, .ref pa, .int 0, .ref nO, .ref dO, .int 0, .int 0, .int 0]))] sz) := by
  refine k_start (by decide) (Nat.le_of_ble_eq_true rfl) ?_
  intro pp ee s m bb mm cd A H locs hAe X h ls hl
  have X : CX g pp s m mm cd _ cX6_told 2 RX6 "told" (some .int) A := X
  have hx := X.1
  have hb := X.2.1
  have hl : lv_has ls 2 [(0, .ref x), (1, .int c)] := hl
  refine lv_iload_n hx hb dX6_told_0 rfl (lv_at hl 1 rfl) ?_
  refine lv_tableOut (tgt := 64) hx hb dX6_told_1 h3 (by decide) ?_
  refine lv_aload_n hx hb dX6_told_64 rfl (lv_at hl 0 rfl) ?_
  refine lv_bipush (v := (-2)) hx hb dX6_told_65 (by decide) ?_
  refine k_i X h [0] [] (wr := []) rfl rfl rfl (by decide) 0 0 (Nat.le_of_ble_eq_true rfl) (Nat.le_of_ble_eq_true rfl) (k_runV X h (As := [.int (-2)]) (rest := []) (c6_refuse_bad l g H.size x tx lk pa nO dO) cw_X6_54 [0] rfl rfl 0 kl6 rfl rfl rfl (Nat.le_of_ble_eq_true rfl) (Nat.le_of_ble_eq_true rfl) rfl hl.1 rfl (Nat.le_of_ble_eq_true rfl) dX6_told_67 (Nat.le_of_ble_eq_true rfl) (Nat.le_of_ble_eq_true rfl)) (fun _ H locs h => ?_)
  have h : ST g A s [] H locs := h
  exact r_iret X h hAe () [] rfl rfl 0 0 (Nat.le_of_ble_eq_true rfl) (Nat.le_of_ble_eq_true rfl) rfl dX6_told_70

set_option maxHeartbeats 4000000 in
set_option maxRecDepth 100000 in
/-- count of a fresh object, case w0 -/
theorem c6_count_w0 (l : Launch) (g : GE) (sz : Nat) (x : Nat) (tx : Nat) (lk : Nat) (pa : Nat) (nO : Nat) (dO : Nat) (np : Nat) (nv : Nat) (ns : Nat) (nsh : Nat) (nshb : Nat) : Met l yX6_count (.code yX6_count cX6_count 3 (some .int) :: WL) { frames := 1, cells := 0, slots := 0, locals := 20 } (PR g [.ref x, .int 0] [(x, .inr (6, [.ref tx, .ref lk, .ref pa, .int 0, .ref nO, .ref dO, .int 0, .int 0, .int 0])), (nO, .inr (4, [.ref np, .int 0, .ref nv, .ref ns, .int 0, .ref nsh])), (nsh, .inr (2, [.int 241, .ref nshb, .int 0]))] sz) (QI g [(x, .inr (6, [.ref tx, .ref lk, .ref pa, .int 0, .ref nO, .ref dO, .int 0, .int 0, .int 0])), (nO, .inr (4, [.ref np, .int 0, .ref nv, .ref ns, .int 0, .ref nsh])), (nsh, .inr (2, [.int 241, .ref nshb, .int 0]))] sz 0 (fun _ : Unit => [(x, .inr (6, [.ref tx, .ref lk, .ref pa, .int 0, .ref nO, .ref dO, .int 0, .int 0, .int 0])), (nO, .inr (4, [.ref np, .int 0, .ref nv, .ref ns, .int 0, .ref nsh])), (nsh, .inr (2, [.int 241, .ref nshb, .int 0]))])) 0 0 (va_A [(x, .inr (6, [.ref tx, .ref lk, .ref pa, .int 0, .ref nO, .ref dO, .int 0, .int 0, .int 0])), (nO, .inr (4, [.ref np, .int 0, .ref nv, .ref ns, .int 0, .ref nsh])), (nsh, .inr (2, [.int 241, .ref nshb, .int 0]))] sz) := by
  refine k_start (by decide) (Nat.le_of_ble_eq_true rfl) ?_
  intro pp ee s m bb mm cd A H locs hAe X h ls hl
  have X : CX g pp s m mm cd _ cX6_count 3 RX6 "count" (some .int) A := X
  have hx := X.1
  have hb := X.2.1
  have hl : lv_has ls 3 [(0, .ref x), (1, .int 0)] := hl
  refine lv_aload_n hx hb dX6_count_0 rfl (lv_at hl 0 rfl) ?_
  refine r_get X h kl6 0 4 rfl (by decide) lk_X6_47 rfl dX6_count_1 ?_
  refine k_q X h [1] [0, 2] (wr := [(x, .inr (6, [.ref tx, .ref lk, .ref pa, .int 0, .ref nO, .ref dO, .int 0, .int 0, .int 0])), (nsh, .inr (2, [.int 241, .ref nshb, .int 0]))]) rfl rfl rfl (by decide) 0 0 (Nat.le_of_ble_eq_true rfl) (Nat.le_of_ble_eq_true rfl) (k_runV X h (As := []) (rest := []) (c4_upp0 l g H.size nO np nv ns nsh 0) cw_X6_119 [1] rfl rfl 1 kl4 rfl rfl rfl (Nat.le_of_ble_eq_true rfl) (Nat.le_of_ble_eq_true rfl) rfl hl.1 rfl (Nat.le_of_ble_eq_true rfl) dX6_count_4 (Nat.le_of_ble_eq_true rfl) (Nat.le_of_ble_eq_true rfl)) (fun _ H locs h => ?_)
  have h : ST g A s [(x, .inr (6, [.ref tx, .ref lk, .ref pa, .int 0, .ref nO, .ref dO, .int 0, .int 0, .int 0])), (nsh, .inr (2, [.int 241, .ref nshb, .int 0])), (nO, .inr (4, [.ref np, .int 0, .ref nv, .ref ns, .int 0, .ref nsh]))] H locs := h
  refine W.eq (g2 := F0 m 7 ls [.null]) rfl ?_
  refine lv_astore_nN (lv' := [(2, .null), (0, .ref x), (1, .int 0)]) hx hb dX6_count_7 rfl hl (by decide) rfl (fun ls hl => ?_)
  refine lv_iload_n hx hb dX6_count_8 rfl (lv_at hl 2 rfl) ?_
  refine lv_tableIn (tgt := 48) hx hb dX6_count_9 (by decide) (by decide) (by rfl) (by decide) ?_
  refine lv_aload_n hx hb dX6_count_48 rfl (lv_at hl 1 rfl) ?_
  refine r_get X h kl6 0 4 rfl (by decide) lk_X6_47 rfl dX6_count_49 ?_
  refine r_get X h kl4 2 5 rfl (by decide) lk_X6_131 rfl dX6_count_52 ?_
  refine k_i X h [1] [0, 2] (wr := [(x, .inr (6, [.ref tx, .ref lk, .ref pa, .int 0, .ref nO, .ref dO, .int 0, .int 0, .int 0])), (nO, .inr (4, [.ref np, .int 0, .ref nv, .ref ns, .int 0, .ref nsh]))]) rfl rfl rfl (by decide) 0 0 (Nat.le_of_ble_eq_true rfl) (Nat.le_of_ble_eq_true rfl) (k_runV X h (As := []) (rest := []) (c2_size l g H.size nsh 241 nshb 0) cw_X6_58 [1] rfl rfl 1 kl2 rfl rfl rfl (Nat.le_of_ble_eq_true rfl) (Nat.le_of_ble_eq_true rfl) rfl hl.1 rfl (Nat.le_of_ble_eq_true rfl) dX6_count_55 (Nat.le_of_ble_eq_true rfl) (Nat.le_of_ble_eq_true rfl)) (fun _ H locs h => ?_)
  have h : ST g A s [(x, .inr (6, [.ref tx, .ref lk, .ref pa, .int 0, .ref nO, .ref dO, .int 0, .int 0, .int 0])), (nO, .inr (4, [.ref np, .int 0, .ref nv, .ref ns, .int 0, .ref nsh])), (nsh, .inr (2, [.int 241, .ref nshb, .int 0]))] H locs := h
  exact r_iret X h hAe () [0, 1, 2] rfl rfl 0 0 (Nat.le_of_ble_eq_true rfl) (Nat.le_of_ble_eq_true rfl) rfl dX6_count_58

set_option maxHeartbeats 4000000 in
set_option maxRecDepth 100000 in
/-- count of a fresh object, case w1 -/
theorem c6_count_w1 (l : Launch) (g : GE) (sz : Nat) (x : Nat) (tx : Nat) (lk : Nat) (pa : Nat) (nO : Nat) (dO : Nat) (np : Nat) (nv : Nat) (ns : Nat) (nsh : Nat) : Met l yX6_count (.code yX6_count cX6_count 3 (some .int) :: WL) { frames := 1, cells := 0, slots := 0, locals := 20 } (PR g [.ref x, .int 1] [(x, .inr (6, [.ref tx, .ref lk, .ref pa, .int 0, .ref nO, .ref dO, .int 0, .int 0, .int 0])), (nO, .inr (4, [.ref np, .int 0, .ref nv, .ref ns, .int 0, .ref nsh]))] sz) (QI g [(x, .inr (6, [.ref tx, .ref lk, .ref pa, .int 0, .ref nO, .ref dO, .int 0, .int 0, .int 0])), (nO, .inr (4, [.ref np, .int 0, .ref nv, .ref ns, .int 0, .ref nsh]))] sz 0 (fun _ : Unit => [(x, .inr (6, [.ref tx, .ref lk, .ref pa, .int 0, .ref nO, .ref dO, .int 0, .int 0, .int 0])), (nO, .inr (4, [.ref np, .int 0, .ref nv, .ref ns, .int 0, .ref nsh]))])) 0 0 (va_A [(x, .inr (6, [.ref tx, .ref lk, .ref pa, .int 0, .ref nO, .ref dO, .int 0, .int 0, .int 0])), (nO, .inr (4, [.ref np, .int 0, .ref nv, .ref ns, .int 0, .ref nsh]))] sz) := by
  refine k_start (by decide) (Nat.le_of_ble_eq_true rfl) ?_
  intro pp ee s m bb mm cd A H locs hAe X h ls hl
  have X : CX g pp s m mm cd _ cX6_count 3 RX6 "count" (some .int) A := X
  have hx := X.1
  have hb := X.2.1
  have hl : lv_has ls 3 [(0, .ref x), (1, .int 1)] := hl
  refine lv_aload_n hx hb dX6_count_0 rfl (lv_at hl 0 rfl) ?_
  refine r_get X h kl6 0 4 rfl (by decide) lk_X6_47 rfl dX6_count_1 ?_
  refine k_q X h [1] [0] (wr := [(x, .inr (6, [.ref tx, .ref lk, .ref pa, .int 0, .ref nO, .ref dO, .int 0, .int 0, .int 0]))]) rfl rfl rfl (by decide) 0 0 (Nat.le_of_ble_eq_true rfl) (Nat.le_of_ble_eq_true rfl) (k_runV X h (As := []) (rest := []) (c4_upp0 l g H.size nO np nv ns nsh 0) cw_X6_119 [1] rfl rfl 1 kl4 rfl rfl rfl (Nat.le_of_ble_eq_true rfl) (Nat.le_of_ble_eq_true rfl) rfl hl.1 rfl (Nat.le_of_ble_eq_true rfl) dX6_count_4 (Nat.le_of_ble_eq_true rfl) (Nat.le_of_ble_eq_true rfl)) (fun _ H locs h => ?_)
  have h : ST g A s [(x, .inr (6, [.ref tx, .ref lk, .ref pa, .int 0, .ref nO, .ref dO, .int 0, .int 0, .int 0])), (nO, .inr (4, [.ref np, .int 0, .ref nv, .ref ns, .int 0, .ref nsh]))] H locs := h
  refine W.eq (g2 := F0 m 7 ls [.null]) rfl ?_
  refine lv_astore_nN (lv' := [(2, .null), (0, .ref x), (1, .int 1)]) hx hb dX6_count_7 rfl hl (by decide) rfl (fun ls hl => ?_)
  refine lv_iload_n hx hb dX6_count_8 rfl (lv_at hl 2 rfl) ?_
  refine lv_tableIn (tgt := 59) hx hb dX6_count_9 (by decide) (by decide) (by rfl) (by decide) ?_
  refine lv_aload_nN hx hb dX6_count_59 rfl (lv_at hl 0 rfl) ?_
  refine lv_ifnonnullN hx hb dX6_count_60 ?_
  refine lv_aload_n hx hb dX6_count_63 rfl (lv_at hl 1 rfl) ?_
  refine r_get X h kl6 0 4 rfl (by decide) lk_X6_47 rfl dX6_count_64 ?_
  refine r_get X h kl4 1 1 rfl (by decide) lk_X6_134 rfl dX6_count_67 ?_
  refine lv_goto (tgt := 74) hx hb dX6_count_70 (by decide) ?_
  exact r_iret X h hAe () [0, 1] rfl rfl 0 0 (Nat.le_of_ble_eq_true rfl) (Nat.le_of_ble_eq_true rfl) rfl dX6_count_74

set_option maxHeartbeats 4000000 in
set_option maxRecDepth 100000 in
/-- count of a fresh object, case w2 -/
theorem c6_count_w2 (l : Launch) (g : GE) (sz : Nat) (x : Nat) (tx : Nat) (lk : Nat) (pa : Nat) (nO : Nat) (dO : Nat) (np : Nat) (nv : Nat) (ns : Nat) (nsh : Nat) : Met l yX6_count (.code yX6_count cX6_count 3 (some .int) :: WL) { frames := 1, cells := 0, slots := 0, locals := 20 } (PR g [.ref x, .int 2] [(x, .inr (6, [.ref tx, .ref lk, .ref pa, .int 0, .ref nO, .ref dO, .int 0, .int 0, .int 0])), (nO, .inr (4, [.ref np, .int 0, .ref nv, .ref ns, .int 0, .ref nsh]))] sz) (QI g [(x, .inr (6, [.ref tx, .ref lk, .ref pa, .int 0, .ref nO, .ref dO, .int 0, .int 0, .int 0])), (nO, .inr (4, [.ref np, .int 0, .ref nv, .ref ns, .int 0, .ref nsh]))] sz 0 (fun _ : Unit => [(x, .inr (6, [.ref tx, .ref lk, .ref pa, .int 0, .ref nO, .ref dO, .int 0, .int 0, .int 0])), (nO, .inr (4, [.ref np, .int 0, .ref nv, .ref ns, .int 0, .ref nsh]))])) 0 0 (va_A [(x, .inr (6, [.ref tx, .ref lk, .ref pa, .int 0, .ref nO, .ref dO, .int 0, .int 0, .int 0])), (nO, .inr (4, [.ref np, .int 0, .ref nv, .ref ns, .int 0, .ref nsh]))] sz) := by
  refine k_start (by decide) (Nat.le_of_ble_eq_true rfl) ?_
  intro pp ee s m bb mm cd A H locs hAe X h ls hl
  have X : CX g pp s m mm cd _ cX6_count 3 RX6 "count" (some .int) A := X
  have hx := X.1
  have hb := X.2.1
  have hl : lv_has ls 3 [(0, .ref x), (1, .int 2)] := hl
  refine lv_aload_n hx hb dX6_count_0 rfl (lv_at hl 0 rfl) ?_
  refine r_get X h kl6 0 4 rfl (by decide) lk_X6_47 rfl dX6_count_1 ?_
  refine k_q X h [1] [0] (wr := [(x, .inr (6, [.ref tx, .ref lk, .ref pa, .int 0, .ref nO, .ref dO, .int 0, .int 0, .int 0]))]) rfl rfl rfl (by decide) 0 0 (Nat.le_of_ble_eq_true rfl) (Nat.le_of_ble_eq_true rfl) (k_runV X h (As := []) (rest := []) (c4_upp0 l g H.size nO np nv ns nsh 0) cw_X6_119 [1] rfl rfl 1 kl4 rfl rfl rfl (Nat.le_of_ble_eq_true rfl) (Nat.le_of_ble_eq_true rfl) rfl hl.1 rfl (Nat.le_of_ble_eq_true rfl) dX6_count_4 (Nat.le_of_ble_eq_true rfl) (Nat.le_of_ble_eq_true rfl)) (fun _ H locs h => ?_)
  have h : ST g A s [(x, .inr (6, [.ref tx, .ref lk, .ref pa, .int 0, .ref nO, .ref dO, .int 0, .int 0, .int 0])), (nO, .inr (4, [.ref np, .int 0, .ref nv, .ref ns, .int 0, .ref nsh]))] H locs := h
  refine W.eq (g2 := F0 m 7 ls [.null]) rfl ?_
  refine lv_astore_nN (lv' := [(2, .null), (0, .ref x), (1, .int 2)]) hx hb dX6_count_7 rfl hl (by decide) rfl (fun ls hl => ?_)
  refine lv_iload_n hx hb dX6_count_8 rfl (lv_at hl 2 rfl) ?_
  refine lv_tableIn (tgt := 75) hx hb dX6_count_9 (by decide) (by decide) (by rfl) (by decide) ?_
  refine lv_aload_n hx hb dX6_count_75 rfl (lv_at hl 1 rfl) ?_
  refine r_get X h kl6 0 4 rfl (by decide) lk_X6_47 rfl dX6_count_76 ?_
  refine r_get X h kl4 1 4 rfl (by decide) lk_X6_99 rfl dX6_count_79 ?_
  exact r_iret X h hAe () [0, 1] rfl rfl 0 0 (Nat.le_of_ble_eq_true rfl) (Nat.le_of_ble_eq_true rfl) rfl dX6_count_82

set_option maxHeartbeats 4000000 in
set_option maxRecDepth 100000 in
/-- count of a fresh object, case w3 -/
theorem c6_count_w3 (l : Launch) (g : GE) (sz : Nat) (x : Nat) (tx : Nat) (lk : Nat) (pa : Nat) (nO : Nat) (dO : Nat) (np : Nat) (nv : Nat) (ns : Nat) (nsh : Nat) : Met l yX6_count (.code yX6_count cX6_count 3 (some .int) :: WL) { frames := 1, cells := 0, slots := 0, locals := 20 } (PR g [.ref x, .int 3] [(x, .inr (6, [.ref tx, .ref lk, .ref pa, .int 0, .ref nO, .ref dO, .int 0, .int 0, .int 0])), (nO, .inr (4, [.ref np, .int 0, .ref nv, .ref ns, .int 0, .ref nsh]))] sz) (QI g [(x, .inr (6, [.ref tx, .ref lk, .ref pa, .int 0, .ref nO, .ref dO, .int 0, .int 0, .int 0])), (nO, .inr (4, [.ref np, .int 0, .ref nv, .ref ns, .int 0, .ref nsh]))] sz (-1) (fun _ : Unit => [(x, .inr (6, [.ref tx, .ref lk, .ref pa, .int 0, .ref nO, .ref dO, .int 0, .int 0, .int 0])), (nO, .inr (4, [.ref np, .int 0, .ref nv, .ref ns, .int 0, .ref nsh]))])) 0 0 (va_A [(x, .inr (6, [.ref tx, .ref lk, .ref pa, .int 0, .ref nO, .ref dO, .int 0, .int 0, .int 0])), (nO, .inr (4, [.ref np, .int 0, .ref nv, .ref ns, .int 0, .ref nsh]))] sz) := by
  refine k_start (by decide) (Nat.le_of_ble_eq_true rfl) ?_
  intro pp ee s m bb mm cd A H locs hAe X h ls hl
  have X : CX g pp s m mm cd _ cX6_count 3 RX6 "count" (some .int) A := X
  have hx := X.1
  have hb := X.2.1
  have hl : lv_has ls 3 [(0, .ref x), (1, .int 3)] := hl
  refine lv_aload_n hx hb dX6_count_0 rfl (lv_at hl 0 rfl) ?_
  refine r_get X h kl6 0 4 rfl (by decide) lk_X6_47 rfl dX6_count_1 ?_
  refine k_q X h [1] [0] (wr := [(x, .inr (6, [.ref tx, .ref lk, .ref pa, .int 0, .ref nO, .ref dO, .int 0, .int 0, .int 0]))]) rfl rfl rfl (by decide) 0 0 (Nat.le_of_ble_eq_true rfl) (Nat.le_of_ble_eq_true rfl) (k_runV X h (As := []) (rest := []) (c4_upp0 l g H.size nO np nv ns nsh 0) cw_X6_119 [1] rfl rfl 1 kl4 rfl rfl rfl (Nat.le_of_ble_eq_true rfl) (Nat.le_of_ble_eq_true rfl) rfl hl.1 rfl (Nat.le_of_ble_eq_true rfl) dX6_count_4 (Nat.le_of_ble_eq_true rfl) (Nat.le_of_ble_eq_true rfl)) (fun _ H locs h => ?_)
  have h : ST g A s [(x, .inr (6, [.ref tx, .ref lk, .ref pa, .int 0, .ref nO, .ref dO, .int 0, .int 0, .int 0])), (nO, .inr (4, [.ref np, .int 0, .ref nv, .ref ns, .int 0, .ref nsh]))] H locs := h
  refine W.eq (g2 := F0 m 7 ls [.null]) rfl ?_
  refine lv_astore_nN (lv' := [(2, .null), (0, .ref x), (1, .int 3)]) hx hb dX6_count_7 rfl hl (by decide) rfl (fun ls hl => ?_)
  refine lv_iload_n hx hb dX6_count_8 rfl (lv_at hl 2 rfl) ?_
  refine lv_tableIn (tgt := 83) hx hb dX6_count_9 (by decide) (by decide) (by rfl) (by decide) ?_
  refine lv_aload_nN hx hb dX6_count_83 rfl (lv_at hl 0 rfl) ?_
  refine lv_ifnonnullN hx hb dX6_count_84 ?_
  refine lv_iconst (v := (-1)) hx hb dX6_count_87 (by decide) ?_
  refine lv_goto (tgt := 95) hx hb dX6_count_88 (by decide) ?_
  exact r_iret X h hAe () [0, 1] rfl rfl 0 0 (Nat.le_of_ble_eq_true rfl) (Nat.le_of_ble_eq_true rfl) rfl dX6_count_95

set_option maxHeartbeats 4000000 in
set_option maxRecDepth 100000 in
/-- count of a fresh object, case w4 -/
theorem c6_count_w4 (l : Launch) (g : GE) (sz : Nat) (x : Nat) (tx : Nat) (lk : Nat) (pa : Nat) (nO : Nat) (dO : Nat) (np : Nat) (nv : Nat) (ns : Nat) (nsh : Nat) : Met l yX6_count (.code yX6_count cX6_count 3 (some .int) :: WL) { frames := 1, cells := 0, slots := 0, locals := 20 } (PR g [.ref x, .int 4] [(x, .inr (6, [.ref tx, .ref lk, .ref pa, .int 0, .ref nO, .ref dO, .int 0, .int 0, .int 0])), (nO, .inr (4, [.ref np, .int 0, .ref nv, .ref ns, .int 0, .ref nsh]))] sz) (QI g [(x, .inr (6, [.ref tx, .ref lk, .ref pa, .int 0, .ref nO, .ref dO, .int 0, .int 0, .int 0])), (nO, .inr (4, [.ref np, .int 0, .ref nv, .ref ns, .int 0, .ref nsh]))] sz 0 (fun _ : Unit => [(x, .inr (6, [.ref tx, .ref lk, .ref pa, .int 0, .ref nO, .ref dO, .int 0, .int 0, .int 0])), (nO, .inr (4, [.ref np, .int 0, .ref nv, .ref ns, .int 0, .ref nsh]))])) 0 0 (va_A [(x, .inr (6, [.ref tx, .ref lk, .ref pa, .int 0, .ref nO, .ref dO, .int 0, .int 0, .int 0])), (nO, .inr (4, [.ref np, .int 0, .ref nv, .ref ns, .int 0, .ref nsh]))] sz) := by
  refine k_start (by decide) (Nat.le_of_ble_eq_true rfl) ?_
  intro pp ee s m bb mm cd A H locs hAe X h ls hl
  have X : CX g pp s m mm cd _ cX6_count 3 RX6 "count" (some .int) A := X
  have hx := X.1
  have hb := X.2.1
  have hl : lv_has ls 3 [(0, .ref x), (1, .int 4)] := hl
  refine lv_aload_n hx hb dX6_count_0 rfl (lv_at hl 0 rfl) ?_
  refine r_get X h kl6 0 4 rfl (by decide) lk_X6_47 rfl dX6_count_1 ?_
  refine k_q X h [1] [0] (wr := [(x, .inr (6, [.ref tx, .ref lk, .ref pa, .int 0, .ref nO, .ref dO, .int 0, .int 0, .int 0]))]) rfl rfl rfl (by decide) 0 0 (Nat.le_of_ble_eq_true rfl) (Nat.le_of_ble_eq_true rfl) (k_runV X h (As := []) (rest := []) (c4_upp0 l g H.size nO np nv ns nsh 0) cw_X6_119 [1] rfl rfl 1 kl4 rfl rfl rfl (Nat.le_of_ble_eq_true rfl) (Nat.le_of_ble_eq_true rfl) rfl hl.1 rfl (Nat.le_of_ble_eq_true rfl) dX6_count_4 (Nat.le_of_ble_eq_true rfl) (Nat.le_of_ble_eq_true rfl)) (fun _ H locs h => ?_)
  have h : ST g A s [(x, .inr (6, [.ref tx, .ref lk, .ref pa, .int 0, .ref nO, .ref dO, .int 0, .int 0, .int 0])), (nO, .inr (4, [.ref np, .int 0, .ref nv, .ref ns, .int 0, .ref nsh]))] H locs := h
  refine W.eq (g2 := F0 m 7 ls [.null]) rfl ?_
  refine lv_astore_nN (lv' := [(2, .null), (0, .ref x), (1, .int 4)]) hx hb dX6_count_7 rfl hl (by decide) rfl (fun ls hl => ?_)
  refine lv_iload_n hx hb dX6_count_8 rfl (lv_at hl 2 rfl) ?_
  refine lv_tableIn (tgt := 96) hx hb dX6_count_9 (by decide) (by decide) (by rfl) (by decide) ?_
  refine lv_aload_nN hx hb dX6_count_96 rfl (lv_at hl 0 rfl) ?_
  refine lv_ifnullN (tgt := 111) hx hb dX6_count_97 (by decide) ?_
  refine lv_iconst (v := 0) hx hb dX6_count_111 (by decide) ?_
  exact r_iret X h hAe () [0, 1] rfl rfl 0 0 (Nat.le_of_ble_eq_true rfl) (Nat.le_of_ble_eq_true rfl) rfl dX6_count_112

set_option maxHeartbeats 4000000 in
set_option maxRecDepth 100000 in
/-- count of a fresh object, case w5 -/
theorem c6_count_w5 (l : Launch) (g : GE) (sz : Nat) (x : Nat) (tx : Nat) (lk : Nat) (pa : Nat) (nO : Nat) (dO : Nat) (np : Nat) (nv : Nat) (ns : Nat) (nsh : Nat) : Met l yX6_count (.code yX6_count cX6_count 3 (some .int) :: WL) { frames := 1, cells := 0, slots := 0, locals := 20 } (PR g [.ref x, .int 5] [(x, .inr (6, [.ref tx, .ref lk, .ref pa, .int 0, .ref nO, .ref dO, .int 0, .int 0, .int 0])), (nO, .inr (4, [.ref np, .int 0, .ref nv, .ref ns, .int 0, .ref nsh]))] sz) (QI g [(x, .inr (6, [.ref tx, .ref lk, .ref pa, .int 0, .ref nO, .ref dO, .int 0, .int 0, .int 0])), (nO, .inr (4, [.ref np, .int 0, .ref nv, .ref ns, .int 0, .ref nsh]))] sz 0 (fun _ : Unit => [(x, .inr (6, [.ref tx, .ref lk, .ref pa, .int 0, .ref nO, .ref dO, .int 0, .int 0, .int 0])), (nO, .inr (4, [.ref np, .int 0, .ref nv, .ref ns, .int 0, .ref nsh]))])) 0 0 (va_A [(x, .inr (6, [.ref tx, .ref lk, .ref pa, .int 0, .ref nO, .ref dO, .int 0, .int 0, .int 0])), (nO, .inr (4, [.ref np, .int 0, .ref nv, .ref ns, .int 0, .ref nsh]))] sz) := by
  refine k_start (by decide) (Nat.le_of_ble_eq_true rfl) ?_
  intro pp ee s m bb mm cd A H locs hAe X h ls hl
  have X : CX g pp s m mm cd _ cX6_count 3 RX6 "count" (some .int) A := X
  have hx := X.1
  have hb := X.2.1
  have hl : lv_has ls 3 [(0, .ref x), (1, .int 5)] := hl
  refine lv_aload_n hx hb dX6_count_0 rfl (lv_at hl 0 rfl) ?_
  refine r_get X h kl6 0 4 rfl (by decide) lk_X6_47 rfl dX6_count_1 ?_
  refine k_q X h [1] [0] (wr := [(x, .inr (6, [.ref tx, .ref lk, .ref pa, .int 0, .ref nO, .ref dO, .int 0, .int 0, .int 0]))]) rfl rfl rfl (by decide) 0 0 (Nat.le_of_ble_eq_true rfl) (Nat.le_of_ble_eq_true rfl) (k_runV X h (As := []) (rest := []) (c4_upp0 l g H.size nO np nv ns nsh 0) cw_X6_119 [1] rfl rfl 1 kl4 rfl rfl rfl (Nat.le_of_ble_eq_true rfl) (Nat.le_of_ble_eq_true rfl) rfl hl.1 rfl (Nat.le_of_ble_eq_true rfl) dX6_count_4 (Nat.le_of_ble_eq_true rfl) (Nat.le_of_ble_eq_true rfl)) (fun _ H locs h => ?_)
  have h : ST g A s [(x, .inr (6, [.ref tx, .ref lk, .ref pa, .int 0, .ref nO, .ref dO, .int 0, .int 0, .int 0])), (nO, .inr (4, [.ref np, .int 0, .ref nv, .ref ns, .int 0, .ref nsh]))] H locs := h
  refine W.eq (g2 := F0 m 7 ls [.null]) rfl ?_
  refine lv_astore_nN (lv' := [(2, .null), (0, .ref x), (1, .int 5)]) hx hb dX6_count_7 rfl hl (by decide) rfl (fun ls hl => ?_)
  refine lv_iload_n hx hb dX6_count_8 rfl (lv_at hl 2 rfl) ?_
  refine lv_tableIn (tgt := 113) hx hb dX6_count_9 (by decide) (by decide) (by rfl) (by decide) ?_
  refine lv_aload_nN hx hb dX6_count_113 rfl (lv_at hl 0 rfl) ?_
  refine lv_ifnonnullN hx hb dX6_count_114 ?_
  refine lv_iconst (v := 0) hx hb dX6_count_117 (by decide) ?_
  refine lv_goto (tgt := 125) hx hb dX6_count_118 (by decide) ?_
  exact r_iret X h hAe () [0, 1] rfl rfl 0 0 (Nat.le_of_ble_eq_true rfl) (Nat.le_of_ble_eq_true rfl) rfl dX6_count_125

set_option maxHeartbeats 4000000 in
set_option maxRecDepth 100000 in
/-- count of a fresh object, case lo -/
theorem c6_count_lo (l : Launch) (g : GE) (sz : Nat) (x : Nat) (tx : Nat) (lk : Nat) (pa : Nat) (nO : Nat) (dO : Nat) (np : Nat) (nv : Nat) (ns : Nat) (nsh : Nat) (c : Int32) (h1 : c < 0) (h3 : Int32.toInt c < 0 ∨ 5 < Int32.toInt c) : Met l yX6_count (.code yX6_count cX6_count 3 (some .int) :: WL) { frames := 1, cells := 0, slots := 0, locals := 21 } (PR g [.ref x, .int c] [(x, .inr (6, [.ref tx, .ref lk, .ref pa, .int 0, .ref nO, .ref dO, .int 0, .int 0, .int 0])), (nO, .inr (4, [.ref np, .int 0, .ref nv, .ref ns, .int 0, .ref nsh]))] sz) (QI g [(x, .inr (6, [.ref tx, .ref lk, .ref pa, .int 0, .ref nO, .ref dO, .int 0, .int 0, .int 0])), (nO, .inr (4, [.ref np, .int 0, .ref nv, .ref ns, .int 0, .ref nsh]))] sz (-2) (fun _ : Unit => [])) 0 0 (va_A [(x, .inr (6, [.ref tx, .ref lk, .ref pa, .int 0, .ref nO, .ref dO, .int 0, .int 0, .int 0])), (nO, .inr (4, [.ref np, .int 0, .ref nv, .ref ns, .int 0, .ref nsh]))] sz) := by
  refine k_start (by decide) (Nat.le_of_ble_eq_true rfl) ?_
  intro pp ee s m bb mm cd A H locs hAe X h ls hl
  have X : CX g pp s m mm cd _ cX6_count 3 RX6 "count" (some .int) A := X
  have hx := X.1
  have hb := X.2.1
  have hl : lv_has ls 3 [(0, .ref x), (1, .int c)] := hl
  refine lv_aload_n hx hb dX6_count_0 rfl (lv_at hl 0 rfl) ?_
  refine r_get X h kl6 0 4 rfl (by decide) lk_X6_47 rfl dX6_count_1 ?_
  refine k_q X h [1] [0] (wr := [(x, .inr (6, [.ref tx, .ref lk, .ref pa, .int 0, .ref nO, .ref dO, .int 0, .int 0, .int 0]))]) rfl rfl rfl (by decide) 0 0 (Nat.le_of_ble_eq_true rfl) (Nat.le_of_ble_eq_true rfl) (k_runV X h (As := []) (rest := []) (c4_upp0 l g H.size nO np nv ns nsh 0) cw_X6_119 [1] rfl rfl 1 kl4 rfl rfl rfl (Nat.le_of_ble_eq_true rfl) (Nat.le_of_ble_eq_true rfl) rfl hl.1 rfl (Nat.le_of_ble_eq_true rfl) dX6_count_4 (Nat.le_of_ble_eq_true rfl) (Nat.le_of_ble_eq_true rfl)) (fun _ H locs h => ?_)
  have h : ST g A s [(x, .inr (6, [.ref tx, .ref lk, .ref pa, .int 0, .ref nO, .ref dO, .int 0, .int 0, .int 0])), (nO, .inr (4, [.ref np, .int 0, .ref nv, .ref ns, .int 0, .ref nsh]))] H locs := h
  refine W.eq (g2 := F0 m 7 ls [.null]) rfl ?_
  refine lv_astore_nN (lv' := [(2, .null), (0, .ref x), (1, .int c)]) hx hb dX6_count_7 rfl hl (by decide) rfl (fun ls hl => ?_)
  refine lv_iload_n hx hb dX6_count_8 rfl (lv_at hl 2 rfl) ?_
  refine lv_tableOut (tgt := 126) hx hb dX6_count_9 h3 (by decide) ?_
  refine lv_aload_n hx hb dX6_count_126 rfl (lv_at hl 1 rfl) ?_
  refine lv_bipush (v := (-2)) hx hb dX6_count_127 (by decide) ?_
  refine k_i X h [0] [1] (wr := [(nO, .inr (4, [.ref np, .int 0, .ref nv, .ref ns, .int 0, .ref nsh]))]) rfl rfl rfl (by decide) 0 0 (Nat.le_of_ble_eq_true rfl) (Nat.le_of_ble_eq_true rfl) (k_runV X h (As := [.int (-2)]) (rest := []) (c6_refuse_bad l g H.size x tx lk pa nO dO) cw_X6_54 [0] rfl rfl 0 kl6 rfl rfl rfl (Nat.le_of_ble_eq_true rfl) (Nat.le_of_ble_eq_true rfl) rfl hl.1 rfl (Nat.le_of_ble_eq_true rfl) dX6_count_129 (Nat.le_of_ble_eq_true rfl) (Nat.le_of_ble_eq_true rfl)) (fun _ H locs h => ?_)
  have h : ST g A s [(nO, .inr (4, [.ref np, .int 0, .ref nv, .ref ns, .int 0, .ref nsh]))] H locs := h
  exact r_iret X h hAe () [] rfl rfl 0 0 (Nat.le_of_ble_eq_true rfl) (Nat.le_of_ble_eq_true rfl) rfl dX6_count_132

set_option maxHeartbeats 4000000 in
set_option maxRecDepth 100000 in
/-- count of a fresh object, case hi -/
theorem c6_count_hi (l : Launch) (g : GE) (sz : Nat) (x : Nat) (tx : Nat) (lk : Nat) (pa : Nat) (nO : Nat) (dO : Nat) (np : Nat) (nv : Nat) (ns : Nat) (nsh : Nat) (c : Int32) (h1 : ¬ c < 0) (h2 : 5 < c) (h3 : Int32.toInt c < 0 ∨ 5 < Int32.toInt c) : Met l yX6_count (.code yX6_count cX6_count 3 (some .int) :: WL) { frames := 1, cells := 0, slots := 0, locals := 21 } (PR g [.ref x, .int c] [(x, .inr (6, [.ref tx, .ref lk, .ref pa, .int 0, .ref nO, .ref dO, .int 0, .int 0, .int 0])), (nO, .inr (4, [.ref np, .int 0, .ref nv, .ref ns, .int 0, .ref nsh]))] sz) (QI g [(x, .inr (6, [.ref tx, .ref lk, .ref pa, .int 0, .ref nO, .ref dO, .int 0, .int 0, .int 0])), (nO, .inr (4, [.ref np, .int 0, .ref nv, .ref ns, .int 0, .ref nsh]))] sz (-2) (fun _ : Unit => [])) 0 0 (va_A [(x, .inr (6, [.ref tx, .ref lk, .ref pa, .int 0, .ref nO, .ref dO, .int 0, .int 0, .int 0])), (nO, .inr (4, [.ref np, .int 0, .ref nv, .ref ns, .int 0, .ref nsh]))] sz) := by
  refine k_start (by decide) (Nat.le_of_ble_eq_true rfl) ?_
  intro pp ee s m bb mm cd A H locs hAe X h ls hl
  have X : CX g pp s m mm cd _ cX6_count 3 RX6 "count" (some .int) A := X
  have hx := X.1
  have hb := X.2.1
  have hl : lv_has ls 3 [(0, .ref x), (1, .int c)] := hl
  refine lv_aload_n hx hb dX6_count_0 rfl (lv_at hl 0 rfl) ?_
  refine r_get X h kl6 0 4 rfl (by decide) lk_X6_47 rfl dX6_count_1 ?_
  refine k_q X h [1] [0] (wr := [(x, .inr (6, [.ref tx, .ref lk, .ref pa, .int 0, .ref nO, .ref dO, .int 0, .int 0, .int 0]))]) rfl rfl rfl (by decide) 0 0 (Nat.le_of_ble_eq_true rfl) (Nat.le_of_ble_eq_true rfl) (k_runV X h (As := []) (rest := []) (c4_upp0 l g H.size nO np nv ns nsh 0) cw_X6_119 [1] rfl rfl 1 kl4 rfl rfl rfl (Nat.le_of_ble_eq_true rfl) (Nat.le_of_ble_eq_true rfl) rfl hl.1 rfl (Nat.le_of_ble_eq_true rfl) dX6_count_4 (Nat.le_of_ble_eq_true rfl) (Nat.le_of_ble_eq_true rfl)) (fun _ H locs h => ?_)
  have h : ST g A s [(x, .inr (6, [.ref tx, .ref lk, .ref pa, .int 0, .ref nO, .ref dO, .int 0, .int 0, .int 0])), (nO, .inr (4, [.ref np, .int 0, .ref nv, .ref ns, .int 0, .ref nsh]))] H locs := h
  refine W.eq (g2 := F0 m 7 ls [.null]) rfl ?_
  refine lv_astore_nN (lv' := [(2, .null), (0, .ref x), (1, .int c)]) hx hb dX6_count_7 rfl hl (by decide) rfl (fun ls hl => ?_)
  refine lv_iload_n hx hb dX6_count_8 rfl (lv_at hl 2 rfl) ?_
  refine lv_tableOut (tgt := 126) hx hb dX6_count_9 h3 (by decide) ?_
  refine lv_aload_n hx hb dX6_count_126 rfl (lv_at hl 1 rfl) ?_
  refine lv_bipush (v := (-2)) hx hb dX6_count_127 (by decide) ?_
  refine k_i X h [0] [1] (wr := [(nO, .inr (4, [.ref np, .int 0, .ref nv, .ref ns, .int 0, .ref nsh]))]) rfl rfl rfl (by decide) 0 0 (Nat.le_of_ble_eq_true rfl) (Nat.le_of_ble_eq_true rfl) (k_runV X h (As := [.int (-2)]) (rest := []) (c6_refuse_bad l g H.size x tx lk pa nO dO) cw_X6_54 [0] rfl rfl 0 kl6 rfl rfl rfl (Nat.le_of_ble_eq_true rfl) (Nat.le_of_ble_eq_true rfl) rfl hl.1 rfl (Nat.le_of_ble_eq_true rfl) dX6_count_129 (Nat.le_of_ble_eq_true rfl) (Nat.le_of_ble_eq_true rfl)) (fun _ H locs h => ?_)
  have h : ST g A s [(nO, .inr (4, [.ref np, .int 0, .ref nv, .ref ns, .int 0, .ref nsh]))] H locs := h
  exact r_iret X h hAe () [] rfl rfl 0 0 (Nat.le_of_ble_eq_true rfl) (Nat.le_of_ble_eq_true rfl) rfl dX6_count_132

set_option maxHeartbeats 4000000 in
set_option maxRecDepth 100000 in
/-- digest of a fresh object, case  -/
theorem c6_digest (l : Launch) (g : GE) (sz : Nat) (x : Nat) (tx : Nat) (lk : Nat) (pa : Nat) (nO : Nat) (dO : Nat) (txb : Nat) (np : Nat) (nv : Nat) (ns : Nat) (nsh : Nat) (nshb : Nat) : Met l yX6_digest (.code yX6_digest cX6_digest 5 (some .long) :: WL) { frames := 2, cells := 0, slots := 0, locals := 42 } (PR g [.ref x] [(x, .inr (6, [.ref tx, .ref lk, .ref pa, .int 0, .ref nO, .ref dO, .int 0, .int 0, .int 0])), (tx, .inr (2, [.int 120, .ref txb, .int 0])), (nO, .inr (4, [.ref np, .int 0, .ref nv, .ref ns, .int 0, .ref nsh])), (nsh, .inr (2, [.int 241, .ref nshb, .int 0]))] sz) (QL g [(x, .inr (6, [.ref tx, .ref lk, .ref pa, .int 0, .ref nO, .ref dO, .int 0, .int 0, .int 0])), (tx, .inr (2, [.int 120, .ref txb, .int 0])), (nO, .inr (4, [.ref np, .int 0, .ref nv, .ref ns, .int 0, .ref nsh])), (nsh, .inr (2, [.int 241, .ref nshb, .int 0]))] sz (-7826380424851621839) (fun _ : Unit => [])) 0 0 (va_A [(x, .inr (6, [.ref tx, .ref lk, .ref pa, .int 0, .ref nO, .ref dO, .int 0, .int 0, .int 0])), (tx, .inr (2, [.int 120, .ref txb, .int 0])), (nO, .inr (4, [.ref np, .int 0, .ref nv, .ref ns, .int 0, .ref nsh])), (nsh, .inr (2, [.int 241, .ref nshb, .int 0]))] sz) := by
  refine k_start (by decide) (Nat.le_of_ble_eq_true rfl) ?_
  intro pp ee s m bb mm cd A H locs hAe X h ls hl
  have X : CX g pp s m mm cd _ cX6_digest 5 RX6 "digest" (some .long) A := X
  have hx := X.1
  have hb := X.2.1
  have hl : lv_has ls 5 [(0, .ref x)] := hl
  refine r_ldc2 X (v := 1870) lk_X6_216 dX6_digest_0 ?_
  refine lv_lstore_n (lv' := [(1, .long 1870), (0, .ref x)]) hx hb dX6_digest_3 rfl hl (by decide) rfl (fun ls hl => ?_)
  refine lv_iconst (v := 0) hx hb dX6_digest_4 (by decide) ?_
  refine lv_istore_n (lv' := [(3, .int 0), (1, .long 1870), (0, .ref x)]) hx hb dX6_digest_5 rfl hl (by decide) rfl (fun ls hl => ?_)
  refine lv_iload_n hx hb dX6_digest_6 rfl (lv_at hl 0 rfl) ?_
  refine lv_iconst (v := 4) hx hb dX6_digest_7 (by decide) ?_
  refine lv_icmp_gt (tgt := 30) hx hb dX6_digest_8 (by decide) (fun c_1 => absurd c_1 (by decide)) (fun c_1 => ?_)
  refine r_ldc2 X (v := 31) lk_X6_218 dX6_digest_11 ?_
  refine lv_lload_n hx hb dX6_digest_14 rfl (lv_at hl 1 rfl) ?_
  refine lv_lmul hx hb dX6_digest_15 ?_
  refine r_vl (y := 57970) (by decide) ?_
  refine lv_aload_n hx hb dX6_digest_16 rfl (lv_at hl 2 rfl) ?_
  refine lv_iload_n hx hb dX6_digest_17 rfl (lv_at hl 0 rfl) ?_
  refine k_i X h [0] [1, 2, 3] (wr := [(tx, .inr (2, [.int 120, .ref txb, .int 0])), (nO, .inr (4, [.ref np, .int 0, .ref nv, .ref ns, .int 0, .ref nsh])), (nsh, .inr (2, [.int 241, .ref nshb, .int 0]))]) rfl rfl rfl (by decide) 0 0 (Nat.le_of_ble_eq_true rfl) (Nat.le_of_ble_eq_true rfl) (k_runV X h (As := [.int 0]) (rest := [.long 57970]) (c6_told_w0 l g H.size x tx lk pa nO dO) cw_X6_220 [0] rfl rfl 0 kl6 rfl rfl rfl (Nat.le_of_ble_eq_true rfl) (Nat.le_of_ble_eq_true rfl) rfl hl.1 rfl (Nat.le_of_ble_eq_true rfl) dX6_digest_18 (Nat.le_of_ble_eq_true rfl) (Nat.le_of_ble_eq_true rfl)) (fun _ H locs h => ?_)
  have h : ST g A s [(tx, .inr (2, [.int 120, .ref txb, .int 0])), (nO, .inr (4, [.ref np, .int 0, .ref nv, .ref ns, .int 0, .ref nsh])), (nsh, .inr (2, [.int 241, .ref nshb, .int 0])), (x, .inr (6, [.ref tx, .ref lk, .ref pa, .int 0, .ref nO, .ref dO, .int 0, .int 0, .int 0]))] H locs := h
  refine lv_i2l (v := 0) hx hb dX6_digest_21 (by decide) ?_
  refine lv_ladd hx hb dX6_digest_22 ?_
  refine r_vl (y := 57970) (by decide) ?_
  refine lv_lstore_n (lv' := [(1, .long 57970), (3, .int 0), (0, .ref x)]) hx hb dX6_digest_23 rfl hl (by decide) rfl (fun ls hl => ?_)
  refine lv_iinc (v := 1) (lv' := [(3, .int 1), (1, .long 57970), (0, .ref x)]) hx hb dX6_digest_24 hl (k := 1) rfl (by decide) (by decide) rfl (fun ls hl => ?_)
  refine lv_goto (tgt := 6) hx hb dX6_digest_27 (by decide) ?_
  refine lv_iload_n hx hb dX6_digest_6 rfl (lv_at hl 0 rfl) ?_
  refine lv_iconst (v := 4) hx hb dX6_digest_7 (by decide) ?_
  refine lv_icmp_gt (tgt := 30) hx hb dX6_digest_8 (by decide) (fun c_2 => absurd c_2 (by decide)) (fun c_2 => ?_)
  refine r_ldc2 X (v := 31) lk_X6_218 dX6_digest_11 ?_
  refine lv_lload_n hx hb dX6_digest_14 rfl (lv_at hl 1 rfl) ?_
  refine lv_lmul hx hb dX6_digest_15 ?_
  refine r_vl (y := 1797070) (by decide) ?_
  refine lv_aload_n hx hb dX6_digest_16 rfl (lv_at hl 2 rfl) ?_
  refine lv_iload_n hx hb dX6_digest_17 rfl (lv_at hl 0 rfl) ?_
  refine k_i X h [3] [0, 1, 2] (wr := [(tx, .inr (2, [.int 120, .ref txb, .int 0])), (nO, .inr (4, [.ref np, .int 0, .ref nv, .ref ns, .int 0, .ref nsh])), (nsh, .inr (2, [.int 241, .ref nshb, .int 0]))]) rfl rfl rfl (by decide) 0 0 (Nat.le_of_ble_eq_true rfl) (Nat.le_of_ble_eq_true rfl) (k_runV X h (As := [.int 1]) (rest := [.long 1797070]) (c6_told_w1 l g H.size x tx lk pa nO dO) cw_X6_220 [3] rfl rfl 3 kl6 rfl rfl rfl (Nat.le_of_ble_eq_true rfl) (Nat.le_of_ble_eq_true rfl) rfl hl.1 rfl (Nat.le_of_ble_eq_true rfl) dX6_digest_18 (Nat.le_of_ble_eq_true rfl) (Nat.le_of_ble_eq_true rfl)) (fun _ H locs h => ?_)
  have h : ST g A s [(tx, .inr (2, [.int 120, .ref txb, .int 0])), (nO, .inr (4, [.ref np, .int 0, .ref nv, .ref ns, .int 0, .ref nsh])), (nsh, .inr (2, [.int 241, .ref nshb, .int 0])), (x, .inr (6, [.ref tx, .ref lk, .ref pa, .int 0, .ref nO, .ref dO, .int 0, .int 0, .int 0]))] H locs := h
  refine lv_i2l (v := 0) hx hb dX6_digest_21 (by decide) ?_
  refine lv_ladd hx hb dX6_digest_22 ?_
  refine r_vl (y := 1797070) (by decide) ?_
  refine lv_lstore_n (lv' := [(1, .long 1797070), (3, .int 1), (0, .ref x)]) hx hb dX6_digest_23 rfl hl (by decide) rfl (fun ls hl => ?_)
  refine lv_iinc (v := 2) (lv' := [(3, .int 2), (1, .long 1797070), (0, .ref x)]) hx hb dX6_digest_24 hl (k := 1) rfl (by decide) (by decide) rfl (fun ls hl => ?_)
  refine lv_goto (tgt := 6) hx hb dX6_digest_27 (by decide) ?_
  refine lv_iload_n hx hb dX6_digest_6 rfl (lv_at hl 0 rfl) ?_
  refine lv_iconst (v := 4) hx hb dX6_digest_7 (by decide) ?_
  refine lv_icmp_gt (tgt := 30) hx hb dX6_digest_8 (by decide) (fun c_3 => absurd c_3 (by decide)) (fun c_3 => ?_)
  refine r_ldc2 X (v := 31) lk_X6_218 dX6_digest_11 ?_
  refine lv_lload_n hx hb dX6_digest_14 rfl (lv_at hl 1 rfl) ?_
  refine lv_lmul hx hb dX6_digest_15 ?_
  refine r_vl (y := 55709170) (by decide) ?_
  refine lv_aload_n hx hb dX6_digest_16 rfl (lv_at hl 2 rfl) ?_
  refine lv_iload_n hx hb dX6_digest_17 rfl (lv_at hl 0 rfl) ?_
  refine k_i X h [3] [0, 1, 2] (wr := [(tx, .inr (2, [.int 120, .ref txb, .int 0])), (nO, .inr (4, [.ref np, .int 0, .ref nv, .ref ns, .int 0, .ref nsh])), (nsh, .inr (2, [.int 241, .ref nshb, .int 0]))]) rfl rfl rfl (by decide) 0 0 (Nat.le_of_ble_eq_true rfl) (Nat.le_of_ble_eq_true rfl) (k_runV X h (As := [.int 2]) (rest := [.long 55709170]) (c6_told_w2 l g H.size x tx lk pa nO dO) cw_X6_220 [3] rfl rfl 3 kl6 rfl rfl rfl (Nat.le_of_ble_eq_true rfl) (Nat.le_of_ble_eq_true rfl) rfl hl.1 rfl (Nat.le_of_ble_eq_true rfl) dX6_digest_18 (Nat.le_of_ble_eq_true rfl) (Nat.le_of_ble_eq_true rfl)) (fun _ H locs h => ?_)
  have h : ST g A s [(tx, .inr (2, [.int 120, .ref txb, .int 0])), (nO, .inr (4, [.ref np, .int 0, .ref nv, .ref ns, .int 0, .ref nsh])), (nsh, .inr (2, [.int 241, .ref nshb, .int 0])), (x, .inr (6, [.ref tx, .ref lk, .ref pa, .int 0, .ref nO, .ref dO, .int 0, .int 0, .int 0]))] H locs := h
  refine lv_i2l (v := 0) hx hb dX6_digest_21 (by decide) ?_
  refine lv_ladd hx hb dX6_digest_22 ?_
  refine r_vl (y := 55709170) (by decide) ?_
  refine lv_lstore_n (lv' := [(1, .long 55709170), (3, .int 2), (0, .ref x)]) hx hb dX6_digest_23 rfl hl (by decide) rfl (fun ls hl => ?_)
  refine lv_iinc (v := 3) (lv' := [(3, .int 3), (1, .long 55709170), (0, .ref x)]) hx hb dX6_digest_24 hl (k := 1) rfl (by decide) (by decide) rfl (fun ls hl => ?_)
  refine lv_goto (tgt := 6) hx hb dX6_digest_27 (by decide) ?_
  refine lv_iload_n hx hb dX6_digest_6 rfl (lv_at hl 0 rfl) ?_
  refine lv_iconst (v := 4) hx hb dX6_digest_7 (by decide) ?_
  refine lv_icmp_gt (tgt := 30) hx hb dX6_digest_8 (by decide) (fun c_4 => absurd c_4 (by decide)) (fun c_4 => ?_)
  refine r_ldc2 X (v := 31) lk_X6_218 dX6_digest_11 ?_
  refine lv_lload_n hx hb dX6_digest_14 rfl (lv_at hl 1 rfl) ?_
  refine lv_lmul hx hb dX6_digest_15 ?_
  refine r_vl (y := 1726984270) (by decide) ?_
  refine lv_aload_n hx hb dX6_digest_16 rfl (lv_at hl 2 rfl) ?_
  refine lv_iload_n hx hb dX6_digest_17 rfl (lv_at hl 0 rfl) ?_
  refine k_i X h [3, 0] [1, 2] (wr := [(nO, .inr (4, [.ref np, .int 0, .ref nv, .ref ns, .int 0, .ref nsh])), (nsh, .inr (2, [.int 241, .ref nshb, .int 0]))]) rfl rfl rfl (by decide) 0 0 (Nat.le_of_ble_eq_true rfl) (Nat.le_of_ble_eq_true rfl) (k_runV X h (As := [.int 3]) (rest := [.long 1726984270]) (c6_told_w3 l g H.size x tx lk pa nO dO txb) cw_X6_220 [3, 0] rfl rfl 3 kl6 rfl rfl rfl (Nat.le_of_ble_eq_true rfl) (Nat.le_of_ble_eq_true rfl) rfl hl.1 rfl (Nat.le_of_ble_eq_true rfl) dX6_digest_18 (Nat.le_of_ble_eq_true rfl) (Nat.le_of_ble_eq_true rfl)) (fun _ H locs h => ?_)
  have h : ST g A s [(nO, .inr (4, [.ref np, .int 0, .ref nv, .ref ns, .int 0, .ref nsh])), (nsh, .inr (2, [.int 241, .ref nshb, .int 0])), (x, .inr (6, [.ref tx, .ref lk, .ref pa, .int 0, .ref nO, .ref dO, .int 0, .int 0, .int 0])), (tx, .inr (2, [.int 120, .ref txb, .int 0]))] H locs := h
  refine lv_i2l (v := 0) hx hb dX6_digest_21 (by decide) ?_
  refine lv_ladd hx hb dX6_digest_22 ?_
  refine r_vl (y := 1726984270) (by decide) ?_
  refine lv_lstore_n (lv' := [(1, .long 1726984270), (3, .int 3), (0, .ref x)]) hx hb dX6_digest_23 rfl hl (by decide) rfl (fun ls hl => ?_)
  refine lv_iinc (v := 4) (lv' := [(3, .int 4), (1, .long 1726984270), (0, .ref x)]) hx hb dX6_digest_24 hl (k := 1) rfl (by decide) (by decide) rfl (fun ls hl => ?_)
  refine lv_goto (tgt := 6) hx hb dX6_digest_27 (by decide) ?_
  refine lv_iload_n hx hb dX6_digest_6 rfl (lv_at hl 0 rfl) ?_
  refine lv_iconst (v := 4) hx hb dX6_digest_7 (by decide) ?_
  refine lv_icmp_gt (tgt := 30) hx hb dX6_digest_8 (by decide) (fun c_5 => absurd c_5 (by decide)) (fun c_5 => ?_)
  refine r_ldc2 X (v := 31) lk_X6_218 dX6_digest_11 ?_
  refine lv_lload_n hx hb dX6_digest_14 rfl (lv_at hl 1 rfl) ?_
  refine lv_lmul hx hb dX6_digest_15 ?_
  refine r_vl (y := 53536512370) (by decide) ?_
  refine lv_aload_n hx hb dX6_digest_16 rfl (lv_at hl 2 rfl) ?_
  refine lv_iload_n hx hb dX6_digest_17 rfl (lv_at hl 0 rfl) ?_
  refine k_i X h [2] [0, 1, 3] (wr := [(nO, .inr (4, [.ref np, .int 0, .ref nv, .ref ns, .int 0, .ref nsh])), (nsh, .inr (2, [.int 241, .ref nshb, .int 0])), (tx, .inr (2, [.int 120, .ref txb, .int 0]))]) rfl rfl rfl (by decide) 0 0 (Nat.le_of_ble_eq_true rfl) (Nat.le_of_ble_eq_true rfl) (k_runV X h (As := [.int 4]) (rest := [.long 53536512370]) (c6_told_w4 l g H.size x tx lk pa nO dO) cw_X6_220 [2] rfl rfl 2 kl6 rfl rfl rfl (Nat.le_of_ble_eq_true rfl) (Nat.le_of_ble_eq_true rfl) rfl hl.1 rfl (Nat.le_of_ble_eq_true rfl) dX6_digest_18 (Nat.le_of_ble_eq_true rfl) (Nat.le_of_ble_eq_true rfl)) (fun _ H locs h => ?_)
  have h : ST g A s [(nO, .inr (4, [.ref np, .int 0, .ref nv, .ref ns, .int 0, .ref nsh])), (nsh, .inr (2, [.int 241, .ref nshb, .int 0])), (tx, .inr (2, [.int 120, .ref txb, .int 0])), (x, .inr (6, [.ref tx, .ref lk, .ref pa, .int 0, .ref nO, .ref dO, .int 0, .int 0, .int 0]))] H locs := h
  refine lv_i2l (v := 0) hx hb dX6_digest_21 (by decide) ?_
  refine lv_ladd hx hb dX6_digest_22 ?_
  refine r_vl (y := 53536512370) (by decide) ?_
  refine lv_lstore_n (lv' := [(1, .long 53536512370), (3, .int 4), (0, .ref x)]) hx hb dX6_digest_23 rfl hl (by decide) rfl (fun ls hl => ?_)
  refine lv_iinc (v := 5) (lv' := [(3, .int 5), (1, .long 53536512370), (0, .ref x)]) hx hb dX6_digest_24 hl (k := 1) rfl (by decide) (by decide) rfl (fun ls hl => ?_)
  refine lv_goto (tgt := 6) hx hb dX6_digest_27 (by decide) ?_
  refine lv_iload_n hx hb dX6_digest_6 rfl (lv_at hl 0 rfl) ?_
  refine lv_iconst (v := 4) hx hb dX6_digest_7 (by decide) ?_
  refine lv_icmp_gt (tgt := 30) hx hb dX6_digest_8 (by decide) (fun c_6 => ?_) (fun c_6 => absurd (by decide) c_6)
  refine lv_iconst (v := 0) hx hb dX6_digest_30 (by decide) ?_
  refine lv_istore_n (lv' := [(3, .int 0), (1, .long 53536512370), (0, .ref x)]) hx hb dX6_digest_31 rfl hl (by decide) rfl (fun ls hl => ?_)
  refine lv_iload_n hx hb dX6_digest_32 rfl (lv_at hl 0 rfl) ?_
  refine lv_iconst (v := 5) hx hb dX6_digest_33 (by decide) ?_
  refine lv_icmp_gt (tgt := 56) hx hb dX6_digest_34 (by decide) (fun c_7 => absurd c_7 (by decide)) (fun c_7 => ?_)
  refine r_ldc2 X (v := 31) lk_X6_218 dX6_digest_37 ?_
  refine lv_lload_n hx hb dX6_digest_40 rfl (lv_at hl 1 rfl) ?_
  refine lv_lmul hx hb dX6_digest_41 ?_
  refine r_vl (y := 1659631883470) (by decide) ?_
  refine lv_aload_n hx hb dX6_digest_42 rfl (lv_at hl 2 rfl) ?_
  refine lv_iload_n hx hb dX6_digest_43 rfl (lv_at hl 0 rfl) ?_
  refine k_i X h [3, 0, 1] [2] (wr := [(tx, .inr (2, [.int 120, .ref txb, .int 0]))]) rfl rfl rfl (by decide) 0 0 (Nat.le_of_ble_eq_true rfl) (Nat.le_of_ble_eq_true rfl) (k_runV X h (As := [.int 0]) (rest := [.long 1659631883470]) (c6_count_w0 l g H.size x tx lk pa nO dO np nv ns nsh nshb) cw_X6_223 [3, 0, 1] rfl rfl 3 kl6 rfl rfl rfl (Nat.le_of_ble_eq_true rfl) (Nat.le_of_ble_eq_true rfl) rfl hl.1 rfl (Nat.le_of_ble_eq_true rfl) dX6_digest_44 (Nat.le_of_ble_eq_true rfl) (Nat.le_of_ble_eq_true rfl)) (fun _ H locs h => ?_)
  have h : ST g A s [(tx, .inr (2, [.int 120, .ref txb, .int 0])), (x, .inr (6, [.ref tx, .ref lk, .ref pa, .int 0, .ref nO, .ref dO, .int 0, .int 0, .int 0])), (nO, .inr (4, [.ref np, .int 0, .ref nv, .ref ns, .int 0, .ref nsh])), (nsh, .inr (2, [.int 241, .ref nshb, .int 0]))] H locs := h
  refine lv_i2l (v := 0) hx hb dX6_digest_47 (by decide) ?_
  refine lv_ladd hx hb dX6_digest_48 ?_
  refine r_vl (y := 1659631883470) (by decide) ?_
  refine lv_lstore_n (lv' := [(1, .long 1659631883470), (3, .int 0), (0, .ref x)]) hx hb dX6_digest_49 rfl hl (by decide) rfl (fun ls hl => ?_)
  refine lv_iinc (v := 1) (lv' := [(3, .int 1), (1, .long 1659631883470), (0, .ref x)]) hx hb dX6_digest_50 hl (k := 1) rfl (by decide) (by decide) rfl (fun ls hl => ?_)
  refine lv_goto (tgt := 32) hx hb dX6_digest_53 (by decide) ?_
  refine lv_iload_n hx hb dX6_digest_32 rfl (lv_at hl 0 rfl) ?_
  refine lv_iconst (v := 5) hx hb dX6_digest_33 (by decide) ?_
  refine lv_icmp_gt (tgt := 56) hx hb dX6_digest_34 (by decide) (fun c_8 => absurd c_8 (by decide)) (fun c_8 => ?_)
  refine r_ldc2 X (v := 31) lk_X6_218 dX6_digest_37 ?_
  refine lv_lload_n hx hb dX6_digest_40 rfl (lv_at hl 1 rfl) ?_
  refine lv_lmul hx hb dX6_digest_41 ?_
  refine r_vl (y := 51448588387570) (by decide) ?_
  refine lv_aload_n hx hb dX6_digest_42 rfl (lv_at hl 2 rfl) ?_
  refine lv_iload_n hx hb dX6_digest_43 rfl (lv_at hl 0 rfl) ?_
  refine k_i X h [1, 2] [0, 3] (wr := [(tx, .inr (2, [.int 120, .ref txb, .int 0])), (nsh, .inr (2, [.int 241, .ref nshb, .int 0]))]) rfl rfl rfl (by decide) 0 0 (Nat.le_of_ble_eq_true rfl) (Nat.le_of_ble_eq_true rfl) (k_runV X h (As := [.int 1]) (rest := [.long 51448588387570]) (c6_count_w1 l g H.size x tx lk pa nO dO np nv ns nsh) cw_X6_223 [1, 2] rfl rfl 1 kl6 rfl rfl rfl (Nat.le_of_ble_eq_true rfl) (Nat.le_of_ble_eq_true rfl) rfl hl.1 rfl (Nat.le_of_ble_eq_true rfl) dX6_digest_44 (Nat.le_of_ble_eq_true rfl) (Nat.le_of_ble_eq_true rfl)) (fun _ H locs h => ?_)
  have h : ST g A s [(tx, .inr (2, [.int 120, .ref txb, .int 0])), (nsh, .inr (2, [.int 241, .ref nshb, .int 0])), (x, .inr (6, [.ref tx, .ref lk, .ref pa, .int 0, .ref nO, .ref dO, .int 0, .int 0, .int 0])), (nO, .inr (4, [.ref np, .int 0, .ref nv, .ref ns, .int 0, .ref nsh]))] H locs := h
  refine lv_i2l (v := 0) hx hb dX6_digest_47 (by decide) ?_
  refine lv_ladd hx hb dX6_digest_48 ?_
  refine r_vl (y := 51448588387570) (by decide) ?_
  refine lv_lstore_n (lv' := [(1, .long 51448588387570), (3, .int 1), (0, .ref x)]) hx hb dX6_digest_49 rfl hl (by decide) rfl (fun ls hl => ?_)
  refine lv_iinc (v := 2) (lv' := [(3, .int 2), (1, .long 51448588387570), (0, .ref x)]) hx hb dX6_digest_50 hl (k := 1) rfl (by decide) (by decide) rfl (fun ls hl => ?_)
  refine lv_goto (tgt := 32) hx hb dX6_digest_53 (by decide) ?_
  refine lv_iload_n hx hb dX6_digest_32 rfl (lv_at hl 0 rfl) ?_
  refine lv_iconst (v := 5) hx hb dX6_digest_33 (by decide) ?_
  refine lv_icmp_gt (tgt := 56) hx hb dX6_digest_34 (by decide) (fun c_9 => absurd c_9 (by decide)) (fun c_9 => ?_)
  refine r_ldc2 X (v := 31) lk_X6_218 dX6_digest_37 ?_
  refine lv_lload_n hx hb dX6_digest_40 rfl (lv_at hl 1 rfl) ?_
  refine lv_lmul hx hb dX6_digest_41 ?_
  refine r_vl (y := 1594906240014670) (by decide) ?_
  refine lv_aload_n hx hb dX6_digest_42 rfl (lv_at hl 2 rfl) ?_
  refine lv_iload_n hx hb dX6_digest_43 rfl (lv_at hl 0 rfl) ?_
  refine k_i X h [2, 3] [0, 1] (wr := [(tx, .inr (2, [.int 120, .ref txb, .int 0])), (nsh, .inr (2, [.int 241, .ref nshb, .int 0]))]) rfl rfl rfl (by decide) 0 0 (Nat.le_of_ble_eq_true rfl) (Nat.le_of_ble_eq_true rfl) (k_runV X h (As := [.int 2]) (rest := [.long 1594906240014670]) (c6_count_w2 l g H.size x tx lk pa nO dO np nv ns nsh) cw_X6_223 [2, 3] rfl rfl 2 kl6 rfl rfl rfl (Nat.le_of_ble_eq_true rfl) (Nat.le_of_ble_eq_true rfl) rfl hl.1 rfl (Nat.le_of_ble_eq_true rfl) dX6_digest_44 (Nat.le_of_ble_eq_true rfl) (Nat.le_of_ble_eq_true rfl)) (fun _ H locs h => ?_)
  have h : ST g A s [(tx, .inr (2, [.int 120, .ref txb, .int 0])), (nsh, .inr (2, [.int 241, .ref nshb, .int 0])), (x, .inr (6, [.ref tx, .ref lk, .ref pa, .int 0, .ref nO, .ref dO, .int 0, .int 0, .int 0])), (nO, .inr (4, [.ref np, .int 0, .ref nv, .ref ns, .int 0, .ref nsh]))] H locs := h
  refine lv_i2l (v := 0) hx hb dX6_digest_47 (by decide) ?_
  refine lv_ladd hx hb dX6_digest_48 ?_
  refine r_vl (y := 1594906240014670) (by decide) ?_
  refine lv_lstore_n (lv' := [(1, .long 1594906240014670), (3, .int 2), (0, .ref x)]) hx hb dX6_digest_49 rfl hl (by decide) rfl (fun ls hl => ?_)
  refine lv_iinc (v := 3) (lv' := [(3, .int 3), (1, .long 1594906240014670), (0, .ref x)]) hx hb dX6_digest_50 hl (k := 1) rfl (by decide) (by decide) rfl (fun ls hl => ?_)
  refine lv_goto (tgt := 32) hx hb dX6_digest_53 (by decide) ?_
  refine lv_iload_n hx hb dX6_digest_32 rfl (lv_at hl 0 rfl) ?_
  refine lv_iconst (v := 5) hx hb dX6_digest_33 (by decide) ?_
  refine lv_icmp_gt (tgt := 56) hx hb dX6_digest_34 (by decide) (fun c_10 => absurd c_10 (by decide)) (fun c_10 => ?_)
  refine r_ldc2 X (v := 31) lk_X6_218 dX6_digest_37 ?_
  refine lv_lload_n hx hb dX6_digest_40 rfl (lv_at hl 1 rfl) ?_
  refine lv_lmul hx hb dX6_digest_41 ?_
  refine r_vl (y := 49442093440454770) (by decide) ?_
  refine lv_aload_n hx hb dX6_digest_42 rfl (lv_at hl 2 rfl) ?_
  refine lv_iload_n hx hb dX6_digest_43 rfl (lv_at hl 0 rfl) ?_
  refine k_i X h [2, 3] [0, 1] (wr := [(tx, .inr (2, [.int 120, .ref txb, .int 0])), (nsh, .inr (2, [.int 241, .ref nshb, .int 0]))]) rfl rfl rfl (by decide) 0 0 (Nat.le_of_ble_eq_true rfl) (Nat.le_of_ble_eq_true rfl) (k_runV X h (As := [.int 3]) (rest := [.long 49442093440454770]) (c6_count_w3 l g H.size x tx lk pa nO dO np nv ns nsh) cw_X6_223 [2, 3] rfl rfl 2 kl6 rfl rfl rfl (Nat.le_of_ble_eq_true rfl) (Nat.le_of_ble_eq_true rfl) rfl hl.1 rfl (Nat.le_of_ble_eq_true rfl) dX6_digest_44 (Nat.le_of_ble_eq_true rfl) (Nat.le_of_ble_eq_true rfl)) (fun _ H locs h => ?_)
  have h : ST g A s [(tx, .inr (2, [.int 120, .ref txb, .int 0])), (nsh, .inr (2, [.int 241, .ref nshb, .int 0])), (x, .inr (6, [.ref tx, .ref lk, .ref pa, .int 0, .ref nO, .ref dO, .int 0, .int 0, .int 0])), (nO, .inr (4, [.ref np, .int 0, .ref nv, .ref ns, .int 0, .ref nsh]))] H locs := h
  refine lv_i2l (v := (-1)) hx hb dX6_digest_47 (by decide) ?_
  refine lv_ladd hx hb dX6_digest_48 ?_
  refine r_vl (y := 49442093440454769) (by decide) ?_
  refine lv_lstore_n (lv' := [(1, .long 49442093440454769), (3, .int 3), (0, .ref x)]) hx hb dX6_digest_49 rfl hl (by decide) rfl (fun ls hl => ?_)
  refine lv_iinc (v := 4) (lv' := [(3, .int 4), (1, .long 49442093440454769), (0, .ref x)]) hx hb dX6_digest_50 hl (k := 1) rfl (by decide) (by decide) rfl (fun ls hl => ?_)
  refine lv_goto (tgt := 32) hx hb dX6_digest_53 (by decide) ?_
  refine lv_iload_n hx hb dX6_digest_32 rfl (lv_at hl 0 rfl) ?_
  refine lv_iconst (v := 5) hx hb dX6_digest_33 (by decide) ?_
  refine lv_icmp_gt (tgt := 56) hx hb dX6_digest_34 (by decide) (fun c_11 => absurd c_11 (by decide)) (fun c_11 => ?_)
  refine r_ldc2 X (v := 31) lk_X6_218 dX6_digest_37 ?_
  refine lv_lload_n hx hb dX6_digest_40 rfl (lv_at hl 1 rfl) ?_
  refine lv_lmul hx hb dX6_digest_41 ?_
  refine r_vl (y := 1532704896654097839) (by decide) ?_
  refine lv_aload_n hx hb dX6_digest_42 rfl (lv_at hl 2 rfl) ?_
  refine lv_iload_n hx hb dX6_digest_43 rfl (lv_at hl 0 rfl) ?_
  refine k_i X h [2, 3] [0, 1] (wr := [(tx, .inr (2, [.int 120, .ref txb, .int 0])), (nsh, .inr (2, [.int 241, .ref nshb, .int 0]))]) rfl rfl rfl (by decide) 0 0 (Nat.le_of_ble_eq_true rfl) (Nat.le_of_ble_eq_true rfl) (k_runV X h (As := [.int 4]) (rest := [.long 1532704896654097839]) (c6_count_w4 l g H.size x tx lk pa nO dO np nv ns nsh) cw_X6_223 [2, 3] rfl rfl 2 kl6 rfl rfl rfl (Nat.le_of_ble_eq_true rfl) (Nat.le_of_ble_eq_true rfl) rfl hl.1 rfl (Nat.le_of_ble_eq_true rfl) dX6_digest_44 (Nat.le_of_ble_eq_true rfl) (Nat.le_of_ble_eq_true rfl)) (fun _ H locs h => ?_)
  have h : ST g A s [(tx, .inr (2, [.int 120, .ref txb, .int 0])), (nsh, .inr (2, [.int 241, .ref nshb, .int 0])), (x, .inr (6, [.ref tx, .ref lk, .ref pa, .int 0, .ref nO, .ref dO, .int 0, .int 0, .int 0])), (nO, .inr (4, [.ref np, .int 0, .ref nv, .ref ns, .int 0, .ref nsh]))] H locs := h
  refine lv_i2l (v := 0) hx hb dX6_digest_47 (by decide) ?_
  refine lv_ladd hx hb dX6_digest_48 ?_
  refine r_vl (y := 1532704896654097839) (by decide) ?_
  refine lv_lstore_n (lv' := [(1, .long 1532704896654097839), (3, .int 4), (0, .ref x)]) hx hb dX6_digest_49 rfl hl (by decide) rfl (fun ls hl => ?_)
  refine lv_iinc (v := 5) (lv' := [(3, .int 5), (1, .long 1532704896654097839), (0, .ref x)]) hx hb dX6_digest_50 hl (k := 1) rfl (by decide) (by decide) rfl (fun ls hl => ?_)
  refine lv_goto (tgt := 32) hx hb dX6_digest_53 (by decide) ?_
  refine lv_iload_n hx hb dX6_digest_32 rfl (lv_at hl 0 rfl) ?_
  refine lv_iconst (v := 5) hx hb dX6_digest_33 (by decide) ?_
  refine lv_icmp_gt (tgt := 56) hx hb dX6_digest_34 (by decide) (fun c_12 => absurd c_12 (by decide)) (fun c_12 => ?_)
  refine r_ldc2 X (v := 31) lk_X6_218 dX6_digest_37 ?_
  refine lv_lload_n hx hb dX6_digest_40 rfl (lv_at hl 1 rfl) ?_
  refine lv_lmul hx hb dX6_digest_41 ?_
  refine r_vl (y := (-7826380424851621839)) (by decide) ?_
  refine lv_aload_n hx hb dX6_digest_42 rfl (lv_at hl 2 rfl) ?_
  refine lv_iload_n hx hb dX6_digest_43 rfl (lv_at hl 0 rfl) ?_
  refine k_i X h [2, 3] [0, 1] (wr := [(tx, .inr (2, [.int 120, .ref txb, .int 0])), (nsh, .inr (2, [.int 241, .ref nshb, .int 0]))]) rfl rfl rfl (by decide) 0 0 (Nat.le_of_ble_eq_true rfl) (Nat.le_of_ble_eq_true rfl) (k_runV X h (As := [.int 5]) (rest := [.long (-7826380424851621839)]) (c6_count_w5 l g H.size x tx lk pa nO dO np nv ns nsh) cw_X6_223 [2, 3] rfl rfl 2 kl6 rfl rfl rfl (Nat.le_of_ble_eq_true rfl) (Nat.le_of_ble_eq_true rfl) rfl hl.1 rfl (Nat.le_of_ble_eq_true rfl) dX6_digest_44 (Nat.le_of_ble_eq_true rfl) (Nat.le_of_ble_eq_true rfl)) (fun _ H locs h => ?_)
  have h : ST g A s [(tx, .inr (2, [.int 120, .ref txb, .int 0])), (nsh, .inr (2, [.int 241, .ref nshb, .int 0])), (x, .inr (6, [.ref tx, .ref lk, .ref pa, .int 0, .ref nO, .ref dO, .int 0, .int 0, .int 0])), (nO, .inr (4, [.ref np, .int 0, .ref nv, .ref ns, .int 0, .ref nsh]))] H locs := h
  refine lv_i2l (v := 0) hx hb dX6_digest_47 (by decide) ?_
  refine lv_ladd hx hb dX6_digest_48 ?_
  refine r_vl (y := (-7826380424851621839)) (by decide) ?_
  refine lv_lstore_n (lv' := [(1, .long (-7826380424851621839)), (3, .int 5), (0, .ref x)]) hx hb dX6_digest_49 rfl hl (by decide) rfl (fun ls hl => ?_)
  refine lv_iinc (v := 6) (lv' := [(3, .int 6), (1, .long (-7826380424851621839)), (0, .ref x)]) hx hb dX6_digest_50 hl (k := 1) rfl (by decide) (by decide) rfl (fun ls hl => ?_)
  refine lv_goto (tgt := 32) hx hb dX6_digest_53 (by decide) ?_
  refine lv_iload_n hx hb dX6_digest_32 rfl (lv_at hl 0 rfl) ?_
  refine lv_iconst (v := 5) hx hb dX6_digest_33 (by decide) ?_
  refine lv_icmp_gt (tgt := 56) hx hb dX6_digest_34 (by decide) (fun c_13 => ?_) (fun c_13 => absurd (by decide) c_13)
  refine lv_iconst (v := 0) hx hb dX6_digest_56 (by decide) ?_
  refine lv_istore_n (lv' := [(3, .int 0), (1, .long (-7826380424851621839)), (0, .ref x)]) hx hb dX6_digest_57 rfl hl (by decide) rfl (fun ls hl => ?_)
  refine lv_iload_n hx hb dX6_digest_58 rfl (lv_at hl 0 rfl) ?_
  refine lv_aload_n hx hb dX6_digest_59 rfl (lv_at hl 2 rfl) ?_
  refine r_get X h kl6 2 4 rfl (by decide) lk_X6_47 rfl dX6_digest_60 ?_
  refine r_get X h kl4 3 5 rfl (by decide) lk_X6_131 rfl dX6_digest_63 ?_
  refine k_i X h [1] [0, 2, 3] (wr := [(tx, .inr (2, [.int 120, .ref txb, .int 0])), (x, .inr (6, [.ref tx, .ref lk, .ref pa, .int 0, .ref nO, .ref dO, .int 0, .int 0, .int 0])), (nO, .inr (4, [.ref np, .int 0, .ref nv, .ref ns, .int 0, .ref nsh]))]) rfl rfl rfl (by decide) 0 0 (Nat.le_of_ble_eq_true rfl) (Nat.le_of_ble_eq_true rfl) (k_runV X h (As := []) (rest := [.int 0]) (c2_size l g H.size nsh 241 nshb 0) cw_X6_58 [1] rfl rfl 1 kl2 rfl rfl rfl (Nat.le_of_ble_eq_true rfl) (Nat.le_of_ble_eq_true rfl) rfl hl.1 rfl (Nat.le_of_ble_eq_true rfl) dX6_digest_66 (Nat.le_of_ble_eq_true rfl) (Nat.le_of_ble_eq_true rfl)) (fun _ H locs h => ?_)
  have h : ST g A s [(tx, .inr (2, [.int 120, .ref txb, .int 0])), (x, .inr (6, [.ref tx, .ref lk, .ref pa, .int 0, .ref nO, .ref dO, .int 0, .int 0, .int 0])), (nO, .inr (4, [.ref np, .int 0, .ref nv, .ref ns, .int 0, .ref nsh])), (nsh, .inr (2, [.int 241, .ref nshb, .int 0]))] H locs := h
  refine lv_icmp_ge (tgt := 97) hx hb dX6_digest_69 (by decide) (fun c_14 => ?_) (fun c_14 => absurd (by decide) c_14)
  refine lv_aload_n hx hb dX6_digest_97 rfl (lv_at hl 2 rfl) ?_
  refine r_get X h kl6 1 4 rfl (by decide) lk_X6_47 rfl dX6_digest_98 ?_
  refine r_get X h kl4 2 4 rfl (by decide) lk_X6_99 rfl dX6_digest_101 ?_
  refine lv_if_le (tgt := 151) hx hb dX6_digest_104 (by decide) (fun c_15 => ?_) (fun c_15 => absurd (by decide) c_15)
  refine lv_lload_n hx hb dX6_digest_151 rfl (lv_at hl 1 rfl) ?_
  exact r_lret X h hAe () [] rfl rfl 0 0 (Nat.le_of_ble_eq_true rfl) (Nat.le_of_ble_eq_true rfl) rfl dX6_digest_152

set_option maxHeartbeats 4000000 in
set_option maxRecDepth 100000 in
/-- type of a fresh object, case lo -/
theorem c6_type_lo (l : Launch) (g : GE) (sz : Nat) (x : Nat) (tx : Nat) (lk : Nat) (pa : Nat) (nO : Nat) (dO : Nat) (c : Int32) (h1 : c < 0) : Met l yX6_type (.code yX6_type cX6_type 2 (some .int) :: WL) { frames := 1, cells := 0, slots := 0, locals := 21 } (PR g [.ref x, .int c] [(x, .inr (6, [.ref tx, .ref lk, .ref pa, .int 0, .ref nO, .ref dO, .int 0, .int 0, .int 0]))] sz) (QI g [(x, .inr (6, [.ref tx, .ref lk, .ref pa, .int 0, .ref nO, .ref dO, .int 0, .int 0, .int 0]))] sz (-2) (fun _ : Unit => [])) 0 0 (va_A [(x, .inr (6, [.ref tx, .ref lk, .ref pa, .int 0, .ref nO, .ref dO, .int 0, .int 0, .int 0]))] sz) := by
  refine k_start (by decide) (Nat.le_of_ble_eq_true rfl) ?_
  intro pp ee s m bb mm cd A H locs hAe X h ls hl
  have X : CX g pp s m mm cd _ cX6_type 2 RX6 "type" (some .int) A := X
  have hx := X.1
  have hb := X.2.1
  have hl : lv_has ls 2 [(0, .ref x), (1, .int c)] := hl
  refine lv_iload_n hx hb dX6_type_0 rfl (lv_at hl 1 rfl) ?_
  refine lv_if_lt (tgt := 10) hx hb dX6_type_1 (by decide) (fun c_1 => ?_) (fun c_1 => absurd h1 c_1)
  refine lv_aload_n hx hb dX6_type_10 rfl (lv_at hl 0 rfl) ?_
  refine lv_bipush (v := (-2)) hx hb dX6_type_11 (by decide) ?_
  refine k_i X h [0] [] (wr := []) rfl rfl rfl (by decide) 0 0 (Nat.le_of_ble_eq_true rfl) (Nat.le_of_ble_eq_true rfl) (k_runV X h (As := [.int (-2)]) (rest := []) (c6_refuse_bad l g H.size x tx lk pa nO dO) cw_X6_54 [0] rfl rfl 0 kl6 rfl rfl rfl (Nat.le_of_ble_eq_true rfl) (Nat.le_of_ble_eq_true rfl) rfl hl.1 rfl (Nat.le_of_ble_eq_true rfl) dX6_type_13 (Nat.le_of_ble_eq_true rfl) (Nat.le_of_ble_eq_true rfl)) (fun _ H locs h => ?_)
  have h : ST g A s [] H locs := h
  exact r_iret X h hAe () [] rfl rfl 0 0 (Nat.le_of_ble_eq_true rfl) (Nat.le_of_ble_eq_true rfl) rfl dX6_type_16

set_option maxHeartbeats 4000000 in
set_option maxRecDepth 100000 in
/-- type of a fresh object, case hi -/
theorem c6_type_hi (l : Launch) (g : GE) (sz : Nat) (x : Nat) (tx : Nat) (lk : Nat) (pa : Nat) (nO : Nat) (dO : Nat) (c : Int32) (h1 : ¬ c < 0) (h2 : 127 < c) : Met l yX6_type (.code yX6_type cX6_type 2 (some .int) :: WL) { frames := 1, cells := 0, slots := 0, locals := 21 } (PR g [.ref x, .int c] [(x, .inr (6, [.ref tx, .ref lk, .ref pa, .int 0, .ref nO, .ref dO, .int 0, .int 0, .int 0]))] sz) (QI g [(x, .inr (6, [.ref tx, .ref lk, .ref pa, .int 0, .ref nO, .ref dO, .int 0, .int 0, .int 0]))] sz (-2) (fun _ : Unit => [])) 0 0 (va_A [(x, .inr (6, [.ref tx, .ref lk, .ref pa, .int 0, .ref nO, .ref dO, .int 0, .int 0, .int 0]))] sz) := by
  refine k_start (by decide) (Nat.le_of_ble_eq_true rfl) ?_
  intro pp ee s m bb mm cd A H locs hAe X h ls hl
  have X : CX g pp s m mm cd _ cX6_type 2 RX6 "type" (some .int) A := X
  have hx := X.1
  have hb := X.2.1
  have hl : lv_has ls 2 [(0, .ref x), (1, .int c)] := hl
  refine lv_iload_n hx hb dX6_type_0 rfl (lv_at hl 1 rfl) ?_
  refine lv_if_lt (tgt := 10) hx hb dX6_type_1 (by decide) (fun c_1 => absurd c_1 h1) (fun c_1 => ?_)
  refine lv_iload_n hx hb dX6_type_4 rfl (lv_at hl 1 rfl) ?_
  refine lv_bipush (v := 127) hx hb dX6_type_5 (by decide) ?_
  refine lv_icmp_le (tgt := 17) hx hb dX6_type_7 (by decide) (fun c_2 => absurd c_2 (Int32.not_le.mpr h2)) (fun c_2 => ?_)
  refine lv_aload_n hx hb dX6_type_10 rfl (lv_at hl 0 rfl) ?_
  refine lv_bipush (v := (-2)) hx hb dX6_type_11 (by decide) ?_
  refine k_i X h [0] [] (wr := []) rfl rfl rfl (by decide) 0 0 (Nat.le_of_ble_eq_true rfl) (Nat.le_of_ble_eq_true rfl) (k_runV X h (As := [.int (-2)]) (rest := []) (c6_refuse_bad l g H.size x tx lk pa nO dO) cw_X6_54 [0] rfl rfl 0 kl6 rfl rfl rfl (Nat.le_of_ble_eq_true rfl) (Nat.le_of_ble_eq_true rfl) rfl hl.1 rfl (Nat.le_of_ble_eq_true rfl) dX6_type_13 (Nat.le_of_ble_eq_true rfl) (Nat.le_of_ble_eq_true rfl)) (fun _ H locs h => ?_)
  have h : ST g A s [] H locs := h
  exact r_iret X h hAe () [] rfl rfl 0 0 (Nat.le_of_ble_eq_true rfl) (Nat.le_of_ble_eq_true rfl) rfl dX6_type_16

set_option maxHeartbeats 4000000 in
set_option maxRecDepth 100000 in
/-- type of a fresh object, case ok -/
theorem c6_type_ok (l : Launch) (g : GE) (sz : Nat) (x : Nat) (tx : Nat) (lk : Nat) (pa : Nat) (nO : Nat) (dO : Nat) (txb : Nat) (c : Int32) (h1 : ¬ c < 0) (h2 : ¬ 127 < c) : Met l yX6_type (.code yX6_type cX6_type 2 (some .int) :: WL) { frames := 2, cells := 1, slots := 16, locals := 45 } (PR g [.ref x, .int c] [(x, .inr (6, [.ref tx, .ref lk, .ref pa, .int 0, .ref nO, .ref dO, .int 0, .int 0, .int 0])), (tx, .inr (2, [.int 120, .ref txb, .int 0])), (txb, .inl (g.2 0, 0, .inl (fun _ => 0)))] sz) (QI g [(x, .inr (6, [.ref tx, .ref lk, .ref pa, .int 0, .ref nO, .ref dO, .int 0, .int 0, .int 0])), (tx, .inr (2, [.int 120, .ref txb, .int 0])), (txb, .inl (g.2 0, 0, .inl (fun _ => 0)))] sz 1 (fun _ : Unit => [])) 1 16 (va_A [(x, .inr (6, [.ref tx, .ref lk, .ref pa, .int 0, .ref nO, .ref dO, .int 0, .int 0, .int 0])), (tx, .inr (2, [.int 120, .ref txb, .int 0])), (txb, .inl (g.2 0, 0, .inl (fun _ => 0)))] sz) := by
  refine k_start (by decide) (Nat.le_of_ble_eq_true rfl) ?_
  intro pp ee s m bb mm cd A H locs hAe X h ls hl
  have X : CX g pp s m mm cd _ cX6_type 2 RX6 "type" (some .int) A := X
  have hx := X.1
  have hb := X.2.1
  have hl : lv_has ls 2 [(0, .ref x), (1, .int c)] := hl
  refine lv_iload_n hx hb dX6_type_0 rfl (lv_at hl 1 rfl) ?_
  refine lv_if_lt (tgt := 10) hx hb dX6_type_1 (by decide) (fun c_1 => absurd c_1 h1) (fun c_1 => ?_)
  refine lv_iload_n hx hb dX6_type_4 rfl (lv_at hl 1 rfl) ?_
  refine lv_bipush (v := 127) hx hb dX6_type_5 (by decide) ?_
  refine lv_icmp_le (tgt := 17) hx hb dX6_type_7 (by decide) (fun c_2 => ?_) (fun c_2 => absurd (Int32.not_lt.mp h2) c_2)
  refine lv_aload_n hx hb dX6_type_17 rfl (lv_at hl 0 rfl) ?_
  refine r_get X h kl6 0 0 rfl (by decide) lk_X6_14 rfl dX6_type_18 ?_
  refine k_i X h [1] [0, 2] (wr := [(x, .inr (6, [.ref tx, .ref lk, .ref pa, .int 0, .ref nO, .ref dO, .int 0, .int 0, .int 0])), (txb, .inl (g.2 0, 0, .inl (fun _ => 0)))]) rfl rfl rfl (by decide) 0 0 (Nat.le_of_ble_eq_true rfl) (Nat.le_of_ble_eq_true rfl) (k_runV X h (As := []) (rest := []) (c2_size l g H.size tx 120 txb 0) cw_X6_58 [1] rfl rfl 1 kl2 rfl rfl rfl (Nat.le_of_ble_eq_true rfl) (Nat.le_of_ble_eq_true rfl) rfl hl.1 rfl (Nat.le_of_ble_eq_true rfl) dX6_type_21 (Nat.le_of_ble_eq_true rfl) (Nat.le_of_ble_eq_true rfl)) (fun _ H locs h => ?_)
  have h : ST g A s [(x, .inr (6, [.ref tx, .ref lk, .ref pa, .int 0, .ref nO, .ref dO, .int 0, .int 0, .int 0])), (txb, .inl (g.2 0, 0, .inl (fun _ => 0))), (tx, .inr (2, [.int 120, .ref txb, .int 0]))] H locs := h
  refine lv_bipush (v := 120) hx hb dX6_type_24 (by decide) ?_
  refine lv_icmp_lt (tgt := 36) hx hb dX6_type_26 (by decide) (fun c_3 => ?_) (fun c_3 => absurd (by decide) c_3)
  refine lv_aload_n hx hb dX6_type_36 rfl (lv_at hl 0 rfl) ?_
  refine r_get X h kl6 0 0 rfl (by decide) lk_X6_14 rfl dX6_type_37 ?_
  refine lv_iload_n hx hb dX6_type_40 rfl (lv_at hl 1 rfl) ?_
  refine k_v X h [2, 1] [0] (wr := [(x, .inr (6, [.ref tx, .ref lk, .ref pa, .int 0, .ref nO, .ref dO, .int 0, .int 0, .int 0]))]) rfl rfl rfl (by decide) 1 16 (Nat.le_of_ble_eq_true rfl) (Nat.le_of_ble_eq_true rfl) (k_runV X h (As := [.int c]) (rest := []) (c2_add_120 l g H.size tx txb c) cw_X6_62 [2, 1] rfl rfl 2 kl2 rfl rfl rfl (Nat.le_of_ble_eq_true rfl) (Nat.le_of_ble_eq_true rfl) rfl hl.1 rfl (Nat.le_of_ble_eq_true rfl) dX6_type_41 (Nat.le_of_ble_eq_true rfl) (Nat.le_of_ble_eq_true rfl)) (fun u9 H locs h => ?_)
  obtain ⟨u_4, rfl⟩ : ∃ z, z = u9 := ⟨_, rfl⟩
  have h : ST g A s [(x, .inr (6, [.ref tx, .ref lk, .ref pa, .int 0, .ref nO, .ref dO, .int 0, .int 0, .int 0])), (tx, .inr (2, [.int 120, .ref u_4, .int 1])), (u_4, .inl (g.2 0, 16, .inl (upd (fun _ => 0) 0 (vp_nar .byte (Int8.toInt32 (Int32.toInt8 c))))))] H locs := h
  refine lv_aload_n hx hb dX6_type_44 rfl (lv_at hl 0 rfl) ?_
  refine r_get X h kl6 0 0 rfl (by decide) lk_X6_14 rfl dX6_type_45 ?_
  refine k_i X h [1] [0, 2] (wr := [(x, .inr (6, [.ref tx, .ref lk, .ref pa, .int 0, .ref nO, .ref dO, .int 0, .int 0, .int 0])), (u_4, .inl (g.2 0, 16, .inl (upd (fun _ => 0) 0 (vp_nar .byte (Int8.toInt32 (Int32.toInt8 c))))))]) rfl rfl rfl (by decide) 1 16 (Nat.le_of_ble_eq_true rfl) (Nat.le_of_ble_eq_true rfl) (k_runV X h (As := []) (rest := []) (c2_size l g H.size tx 120 u_4 1) cw_X6_58 [1] rfl rfl 1 kl2 rfl rfl rfl (Nat.le_of_ble_eq_true rfl) (Nat.le_of_ble_eq_true rfl) rfl hl.1 rfl (Nat.le_of_ble_eq_true rfl) dX6_type_48 (Nat.le_of_ble_eq_true rfl) (Nat.le_of_ble_eq_true rfl)) (fun _ H locs h => ?_)
  have h : ST g A s [(x, .inr (6, [.ref tx, .ref lk, .ref pa, .int 0, .ref nO, .ref dO, .int 0, .int 0, .int 0])), (u_4, .inl (g.2 0, 16, .inl (upd (fun _ => 0) 0 (vp_nar .byte (Int8.toInt32 (Int32.toInt8 c)))))), (tx, .inr (2, [.int 120, .ref u_4, .int 1]))] H locs := h
  exact r_iret X h hAe () [] rfl rfl 1 16 (Nat.le_of_ble_eq_true rfl) (Nat.le_of_ble_eq_true rfl) rfl dX6_type_51

set_option maxHeartbeats 4000000 in
set_option maxRecDepth 100000 in
/-- clear of a fresh object, case  -/
theorem c6_clear (l : Launch) (g : GE) (sz : Nat) (x : Nat) (tx : Nat) (lk : Nat) (pa : Nat) (nO : Nat) (dO : Nat) (txb : Nat) : Met l yX6_clear (.code yX6_clear cX6_clear 2 (some .int) :: WL) { frames := 1, cells := 0, slots := 0, locals := 20 } (PR g [.ref x] [(x, .inr (6, [.ref tx, .ref lk, .ref pa, .int 0, .ref nO, .ref dO, .int 0, .int 0, .int 0])), (tx, .inr (2, [.int 120, .ref txb, .int 0]))] sz) (QI g [(x, .inr (6, [.ref tx, .ref lk, .ref pa, .int 0, .ref nO, .ref dO, .int 0, .int 0, .int 0])), (tx, .inr (2, [.int 120, .ref txb, .int 0]))] sz 0 (fun _ : Unit => [])) 0 0 (va_A [(x, .inr (6, [.ref tx, .ref lk, .ref pa, .int 0, .ref nO, .ref dO, .int 0, .int 0, .int 0])), (tx, .inr (2, [.int 120, .ref txb, .int 0]))] sz) := by
  refine k_start (by decide) (Nat.le_of_ble_eq_true rfl) ?_
  intro pp ee s m bb mm cd A H locs hAe X h ls hl
  have X : CX g pp s m mm cd _ cX6_clear 2 RX6 "clear" (some .int) A := X
  have hx := X.1
  have hb := X.2.1
  have hl : lv_has ls 2 [(0, .ref x)] := hl
  refine lv_aload_n hx hb dX6_clear_0 rfl (lv_at hl 0 rfl) ?_
  refine r_get X h kl6 0 0 rfl (by decide) lk_X6_14 rfl dX6_clear_1 ?_
  refine k_i X h [1] [0] (wr := [(x, .inr (6, [.ref tx, .ref lk, .ref pa, .int 0, .ref nO, .ref dO, .int 0, .int 0, .int 0]))]) rfl rfl rfl (by decide) 0 0 (Nat.le_of_ble_eq_true rfl) (Nat.le_of_ble_eq_true rfl) (k_runV X h (As := []) (rest := []) (c2_size l g H.size tx 120 txb 0) cw_X6_58 [1] rfl rfl 1 kl2 rfl rfl rfl (Nat.le_of_ble_eq_true rfl) (Nat.le_of_ble_eq_true rfl) rfl hl.1 rfl (Nat.le_of_ble_eq_true rfl) dX6_clear_4 (Nat.le_of_ble_eq_true rfl) (Nat.le_of_ble_eq_true rfl)) (fun _ H locs h => ?_)
  have h : ST g A s [(x, .inr (6, [.ref tx, .ref lk, .ref pa, .int 0, .ref nO, .ref dO, .int 0, .int 0, .int 0])), (tx, .inr (2, [.int 120, .ref txb, .int 0]))] H locs := h
  refine lv_istore_n (lv' := [(1, .int 0), (0, .ref x)]) hx hb dX6_clear_7 rfl hl (by decide) rfl (fun ls hl => ?_)
  refine lv_aload_n hx hb dX6_clear_8 rfl (lv_at hl 1 rfl) ?_
  refine r_get X h kl6 0 0 rfl (by decide) lk_X6_14 rfl dX6_clear_9 ?_
  refine k_v X h [1] [0] (wr := [(x, .inr (6, [.ref tx, .ref lk, .ref pa, .int 0, .ref nO, .ref dO, .int 0, .int 0, .int 0]))]) rfl rfl rfl (by decide) 0 0 (Nat.le_of_ble_eq_true rfl) (Nat.le_of_ble_eq_true rfl) (k_runV X h (As := []) (rest := []) (c2_empty l g H.size tx 120 txb 0) cw_X6_65 [1] rfl rfl 1 kl2 rfl rfl rfl (Nat.le_of_ble_eq_true rfl) (Nat.le_of_ble_eq_true rfl) rfl hl.1 rfl (Nat.le_of_ble_eq_true rfl) dX6_clear_12 (Nat.le_of_ble_eq_true rfl) (Nat.le_of_ble_eq_true rfl)) (fun _ H locs h => ?_)
  have h : ST g A s [(x, .inr (6, [.ref tx, .ref lk, .ref pa, .int 0, .ref nO, .ref dO, .int 0, .int 0, .int 0])), (tx, .inr (2, [.int 120, .ref txb, .int 0]))] H locs := h
  refine lv_iload_n hx hb dX6_clear_15 rfl (lv_at hl 0 rfl) ?_
  exact r_iret X h hAe () [] rfl rfl 0 0 (Nat.le_of_ble_eq_true rfl) (Nat.le_of_ble_eq_true rfl) rfl dX6_clear_16

set_option maxHeartbeats 4000000 in
set_option maxRecDepth 100000 in
/-- rubs of a fresh object, case  -/
theorem c6_rubs (l : Launch) (g : GE) (sz : Nat) (x : Nat) (tx : Nat) (lk : Nat) (pa : Nat) (nO : Nat) (dO : Nat) (np : Nat) (nv : Nat) (ns : Nat) (nsh : Nat) : Met l yX6_rubs (.code yX6_rubs cX6_rubs 2 (some .int) :: WL) { frames := 1, cells := 0, slots := 0, locals := 21 } (PR g [.ref x] [(x, .inr (6, [.ref tx, .ref lk, .ref pa, .int 0, .ref nO, .ref dO, .int 0, .int 0, .int 0])), (nO, .inr (4, [.ref np, .int 0, .ref nv, .ref ns, .int 0, .ref nsh]))] sz) (QI g [(x, .inr (6, [.ref tx, .ref lk, .ref pa, .int 0, .ref nO, .ref dO, .int 0, .int 0, .int 0])), (nO, .inr (4, [.ref np, .int 0, .ref nv, .ref ns, .int 0, .ref nsh]))] sz (-3) (fun _ : Unit => [])) 0 0 (va_A [(x, .inr (6, [.ref tx, .ref lk, .ref pa, .int 0, .ref nO, .ref dO, .int 0, .int 0, .int 0])), (nO, .inr (4, [.ref np, .int 0, .ref nv, .ref ns, .int 0, .ref nsh]))] sz) := by
  refine k_start (by decide) (Nat.le_of_ble_eq_true rfl) ?_
  intro pp ee s m bb mm cd A H locs hAe X h ls hl
  have X : CX g pp s m mm cd _ cX6_rubs 2 RX6 "rubs" (some .int) A := X
  have hx := X.1
  have hb := X.2.1
  have hl : lv_has ls 2 [(0, .ref x)] := hl
  refine lv_aload_n hx hb dX6_rubs_0 rfl (lv_at hl 0 rfl) ?_
  refine r_get X h kl6 0 4 rfl (by decide) lk_X6_47 rfl dX6_rubs_1 ?_
  refine k_q X h [1] [0] (wr := [(x, .inr (6, [.ref tx, .ref lk, .ref pa, .int 0, .ref nO, .ref dO, .int 0, .int 0, .int 0]))]) rfl rfl rfl (by decide) 0 0 (Nat.le_of_ble_eq_true rfl) (Nat.le_of_ble_eq_true rfl) (k_runV X h (As := []) (rest := []) (c4_upp0 l g H.size nO np nv ns nsh 0) cw_X6_119 [1] rfl rfl 1 kl4 rfl rfl rfl (Nat.le_of_ble_eq_true rfl) (Nat.le_of_ble_eq_true rfl) rfl hl.1 rfl (Nat.le_of_ble_eq_true rfl) dX6_rubs_4 (Nat.le_of_ble_eq_true rfl) (Nat.le_of_ble_eq_true rfl)) (fun _ H locs h => ?_)
  have h : ST g A s [(x, .inr (6, [.ref tx, .ref lk, .ref pa, .int 0, .ref nO, .ref dO, .int 0, .int 0, .int 0])), (nO, .inr (4, [.ref np, .int 0, .ref nv, .ref ns, .int 0, .ref nsh]))] H locs := h
  refine W.eq (g2 := F0 m 7 ls [.null]) rfl ?_
  refine lv_astore_nN (lv' := [(1, .null), (0, .ref x)]) hx hb dX6_rubs_7 rfl hl (by decide) rfl (fun ls hl => ?_)
  refine lv_aload_nN hx hb dX6_rubs_8 rfl (lv_at hl 0 rfl) ?_
  refine lv_ifnonnullN hx hb dX6_rubs_9 ?_
  refine lv_aload_n hx hb dX6_rubs_12 rfl (lv_at hl 1 rfl) ?_
  refine r_get X h kl6 0 4 rfl (by decide) lk_X6_47 rfl dX6_rubs_13 ?_
  refine r_get X h kl4 1 1 rfl (by decide) lk_X6_134 rfl dX6_rubs_16 ?_
  refine lv_if_ne (tgt := 47) hx hb dX6_rubs_19 (by decide) (fun c_1 => absurd (by decide) c_1) (fun c_1 => ?_)
  refine lv_goto (tgt := 40) hx hb dX6_rubs_22 (by decide) ?_
  refine lv_aload_n hx hb dX6_rubs_40 rfl (lv_at hl 1 rfl) ?_
  refine lv_bipush (v := (-3)) hx hb dX6_rubs_41 (by decide) ?_
  refine k_i X h [0] [1] (wr := [(nO, .inr (4, [.ref np, .int 0, .ref nv, .ref ns, .int 0, .ref nsh]))]) rfl rfl rfl (by decide) 0 0 (Nat.le_of_ble_eq_true rfl) (Nat.le_of_ble_eq_true rfl) (k_runV X h (As := [.int (-3)]) (rest := []) (c6_refuse_no l g H.size x tx lk pa nO dO) cw_X6_54 [0] rfl rfl 0 kl6 rfl rfl rfl (Nat.le_of_ble_eq_true rfl) (Nat.le_of_ble_eq_true rfl) rfl hl.1 rfl (Nat.le_of_ble_eq_true rfl) dX6_rubs_43 (Nat.le_of_ble_eq_true rfl) (Nat.le_of_ble_eq_true rfl)) (fun _ H locs h => ?_)
  have h : ST g A s [(nO, .inr (4, [.ref np, .int 0, .ref nv, .ref ns, .int 0, .ref nsh]))] H locs := h
  exact r_iret X h hAe () [] rfl rfl 0 0 (Nat.le_of_ble_eq_true rfl) (Nat.le_of_ble_eq_true rfl) rfl dX6_rubs_46

set_option maxHeartbeats 4000000 in
set_option maxRecDepth 100000 in
/-- nexts of a fresh object, case  -/
theorem c6_nexts (l : Launch) (g : GE) (sz : Nat) (x : Nat) (tx : Nat) (lk : Nat) (pa : Nat) (nO : Nat) (dO : Nat) (np : Nat) (nv : Nat) (ns : Nat) (nsh : Nat) : Met l yX6_nexts (.code yX6_nexts cX6_nexts 3 (some .int) :: WL) { frames := 1, cells := 0, slots := 0, locals := 21 } (PR g [.ref x] [(x, .inr (6, [.ref tx, .ref lk, .ref pa, .int 0, .ref nO, .ref dO, .int 0, .int 0, .int 0])), (nO, .inr (4, [.ref np, .int 0, .ref nv, .ref ns, .int 0, .ref nsh]))] sz) (QI g [(x, .inr (6, [.ref tx, .ref lk, .ref pa, .int 0, .ref nO, .ref dO, .int 0, .int 0, .int 0])), (nO, .inr (4, [.ref np, .int 0, .ref nv, .ref ns, .int 0, .ref nsh]))] sz (-3) (fun _ : Unit => [])) 0 0 (va_A [(x, .inr (6, [.ref tx, .ref lk, .ref pa, .int 0, .ref nO, .ref dO, .int 0, .int 0, .int 0])), (nO, .inr (4, [.ref np, .int 0, .ref nv, .ref ns, .int 0, .ref nsh]))] sz) := by
  refine k_start (by decide) (Nat.le_of_ble_eq_true rfl) ?_
  intro pp ee s m bb mm cd A H locs hAe X h ls hl
  have X : CX g pp s m mm cd _ cX6_nexts 3 RX6 "nexts" (some .int) A := X
  have hx := X.1
  have hb := X.2.1
  have hl : lv_has ls 3 [(0, .ref x)] := hl
  refine lv_aload_n hx hb dX6_nexts_0 rfl (lv_at hl 0 rfl) ?_
  refine r_get X h kl6 0 4 rfl (by decide) lk_X6_47 rfl dX6_nexts_1 ?_
  refine k_q X h [1] [0] (wr := [(x, .inr (6, [.ref tx, .ref lk, .ref pa, .int 0, .ref nO, .ref dO, .int 0, .int 0, .int 0]))]) rfl rfl rfl (by decide) 0 0 (Nat.le_of_ble_eq_true rfl) (Nat.le_of_ble_eq_true rfl) (k_runV X h (As := []) (rest := []) (c4_upp0 l g H.size nO np nv ns nsh 0) cw_X6_119 [1] rfl rfl 1 kl4 rfl rfl rfl (Nat.le_of_ble_eq_true rfl) (Nat.le_of_ble_eq_true rfl) rfl hl.1 rfl (Nat.le_of_ble_eq_true rfl) dX6_nexts_4 (Nat.le_of_ble_eq_true rfl) (Nat.le_of_ble_eq_true rfl)) (fun _ H locs h => ?_)
  have h : ST g A s [(x, .inr (6, [.ref tx, .ref lk, .ref pa, .int 0, .ref nO, .ref dO, .int 0, .int 0, .int 0])), (nO, .inr (4, [.ref np, .int 0, .ref nv, .ref ns, .int 0, .ref nsh]))] H locs := h
  refine W.eq (g2 := F0 m 7 ls [.null]) rfl ?_
  refine lv_astore_nN (lv' := [(1, .null), (0, .ref x)]) hx hb dX6_nexts_7 rfl hl (by decide) rfl (fun ls hl => ?_)
  refine lv_aload_nN hx hb dX6_nexts_8 rfl (lv_at hl 0 rfl) ?_
  refine lv_ifnonnullN hx hb dX6_nexts_9 ?_
  refine lv_aload_n hx hb dX6_nexts_12 rfl (lv_at hl 1 rfl) ?_
  refine lv_bipush (v := (-3)) hx hb dX6_nexts_13 (by decide) ?_
  refine k_i X h [0] [1] (wr := [(nO, .inr (4, [.ref np, .int 0, .ref nv, .ref ns, .int 0, .ref nsh]))]) rfl rfl rfl (by decide) 0 0 (Nat.le_of_ble_eq_true rfl) (Nat.le_of_ble_eq_true rfl) (k_runV X h (As := [.int (-3)]) (rest := []) (c6_refuse_no l g H.size x tx lk pa nO dO) cw_X6_54 [0] rfl rfl 0 kl6 rfl rfl rfl (Nat.le_of_ble_eq_true rfl) (Nat.le_of_ble_eq_true rfl) rfl hl.1 rfl (Nat.le_of_ble_eq_true rfl) dX6_nexts_15 (Nat.le_of_ble_eq_true rfl) (Nat.le_of_ble_eq_true rfl)) (fun _ H locs h => ?_)
  have h : ST g A s [(nO, .inr (4, [.ref np, .int 0, .ref nv, .ref ns, .int 0, .ref nsh]))] H locs := h
  exact r_iret X h hAe () [] rfl rfl 0 0 (Nat.le_of_ble_eq_true rfl) (Nat.le_of_ble_eq_true rfl) rfl dX6_nexts_18

set_option maxHeartbeats 4000000 in
set_option maxRecDepth 100000 in
/-- prevs of a fresh object, case  -/
theorem c6_prevs (l : Launch) (g : GE) (sz : Nat) (x : Nat) (tx : Nat) (lk : Nat) (pa : Nat) (nO : Nat) (dO : Nat) (np : Nat) (nv : Nat) (ns : Nat) (nsh : Nat) : Met l yX6_prevs (.code yX6_prevs cX6_prevs 3 (some .int) :: WL) { frames := 1, cells := 0, slots := 0, locals := 21 } (PR g [.ref x] [(x, .inr (6, [.ref tx, .ref lk, .ref pa, .int 0, .ref nO, .ref dO, .int 0, .int 0, .int 0])), (nO, .inr (4, [.ref np, .int 0, .ref nv, .ref ns, .int 0, .ref nsh]))] sz) (QI g [(x, .inr (6, [.ref tx, .ref lk, .ref pa, .int 0, .ref nO, .ref dO, .int 0, .int 0, .int 0])), (nO, .inr (4, [.ref np, .int 0, .ref nv, .ref ns, .int 0, .ref nsh]))] sz (-3) (fun _ : Unit => [])) 0 0 (va_A [(x, .inr (6, [.ref tx, .ref lk, .ref pa, .int 0, .ref nO, .ref dO, .int 0, .int 0, .int 0])), (nO, .inr (4, [.ref np, .int 0, .ref nv, .ref ns, .int 0, .ref nsh]))] sz) := by
  refine k_start (by decide) (Nat.le_of_ble_eq_true rfl) ?_
  intro pp ee s m bb mm cd A H locs hAe X h ls hl
  have X : CX g pp s m mm cd _ cX6_prevs 3 RX6 "prevs" (some .int) A := X
  have hx := X.1
  have hb := X.2.1
  have hl : lv_has ls 3 [(0, .ref x)] := hl
  refine lv_aload_n hx hb dX6_prevs_0 rfl (lv_at hl 0 rfl) ?_
  refine r_get X h kl6 0 4 rfl (by decide) lk_X6_47 rfl dX6_prevs_1 ?_
  refine k_q X h [1] [0] (wr := [(x, .inr (6, [.ref tx, .ref lk, .ref pa, .int 0, .ref nO, .ref dO, .int 0, .int 0, .int 0]))]) rfl rfl rfl (by decide) 0 0 (Nat.le_of_ble_eq_true rfl) (Nat.le_of_ble_eq_true rfl) (k_runV X h (As := []) (rest := []) (c4_upp0 l g H.size nO np nv ns nsh 0) cw_X6_119 [1] rfl rfl 1 kl4 rfl rfl rfl (Nat.le_of_ble_eq_true rfl) (Nat.le_of_ble_eq_true rfl) rfl hl.1 rfl (Nat.le_of_ble_eq_true rfl) dX6_prevs_4 (Nat.le_of_ble_eq_true rfl) (Nat.le_of_ble_eq_true rfl)) (fun _ H locs h => ?_)
  have h : ST g A s [(x, .inr (6, [.ref tx, .ref lk, .ref pa, .int 0, .ref nO, .ref dO, .int 0, .int 0, .int 0])), (nO, .inr (4, [.ref np, .int 0, .ref nv, .ref ns, .int 0, .ref nsh]))] H locs := h
  refine W.eq (g2 := F0 m 7 ls [.null]) rfl ?_
  refine lv_astore_nN (lv' := [(1, .null), (0, .ref x)]) hx hb dX6_prevs_7 rfl hl (by decide) rfl (fun ls hl => ?_)
  refine lv_aload_nN hx hb dX6_prevs_8 rfl (lv_at hl 0 rfl) ?_
  refine lv_ifnonnullN hx hb dX6_prevs_9 ?_
  refine lv_iconst (v := (-1)) hx hb dX6_prevs_12 (by decide) ?_
  refine lv_goto (tgt := 24) hx hb dX6_prevs_13 (by decide) ?_
  refine lv_istore_n (lv' := [(2, .int (-1)), (1, .null), (0, .ref x)]) hx hb dX6_prevs_24 rfl hl (by decide) rfl (fun ls hl => ?_)
  refine lv_iload_n hx hb dX6_prevs_25 rfl (lv_at hl 0 rfl) ?_
  refine lv_iconst (v := (-1)) hx hb dX6_prevs_26 (by decide) ?_
  refine lv_icmp_ne (tgt := 37) hx hb dX6_prevs_27 (by decide) (fun c_1 => absurd (by decide) c_1) (fun c_1 => ?_)
  refine lv_aload_n hx hb dX6_prevs_30 rfl (lv_at hl 2 rfl) ?_
  refine lv_bipush (v := (-3)) hx hb dX6_prevs_31 (by decide) ?_
  refine k_i X h [0] [1] (wr := [(nO, .inr (4, [.ref np, .int 0, .ref nv, .ref ns, .int 0, .ref nsh]))]) rfl rfl rfl (by decide) 0 0 (Nat.le_of_ble_eq_true rfl) (Nat.le_of_ble_eq_true rfl) (k_runV X h (As := [.int (-3)]) (rest := []) (c6_refuse_no l g H.size x tx lk pa nO dO) cw_X6_54 [0] rfl rfl 0 kl6 rfl rfl rfl (Nat.le_of_ble_eq_true rfl) (Nat.le_of_ble_eq_true rfl) rfl hl.1 rfl (Nat.le_of_ble_eq_true rfl) dX6_prevs_33 (Nat.le_of_ble_eq_true rfl) (Nat.le_of_ble_eq_true rfl)) (fun _ H locs h => ?_)
  have h : ST g A s [(nO, .inr (4, [.ref np, .int 0, .ref nv, .ref ns, .int 0, .ref nsh]))] H locs := h
  exact r_iret X h hAe () [] rfl rfl 0 0 (Nat.le_of_ble_eq_true rfl) (Nat.le_of_ble_eq_true rfl) rfl dX6_prevs_36

set_option maxHeartbeats 4000000 in
set_option maxRecDepth 100000 in
/-- picks of a fresh object, case lo -/
theorem c6_picks_lo (l : Launch) (g : GE) (sz : Nat) (x : Nat) (tx : Nat) (lk : Nat) (pa : Nat) (nO : Nat) (dO : Nat) (c : Int32) (h1 : c < 0) : Met l yX6_picks (.code yX6_picks cX6_picks 3 (some .int) :: WL) { frames := 1, cells := 0, slots := 0, locals := 21 } (PR g [.ref x, .int c] [(x, .inr (6, [.ref tx, .ref lk, .ref pa, .int 0, .ref nO, .ref dO, .int 0, .int 0, .int 0]))] sz) (QI g [(x, .inr (6, [.ref tx, .ref lk, .ref pa, .int 0, .ref nO, .ref dO, .int 0, .int 0, .int 0]))] sz (-2) (fun _ : Unit => [])) 0 0 (va_A [(x, .inr (6, [.ref tx, .ref lk, .ref pa, .int 0, .ref nO, .ref dO, .int 0, .int 0, .int 0]))] sz) := by
  refine k_start (by decide) (Nat.le_of_ble_eq_true rfl) ?_
  intro pp ee s m bb mm cd A H locs hAe X h ls hl
  have X : CX g pp s m mm cd _ cX6_picks 3 RX6 "picks" (some .int) A := X
  have hx := X.1
  have hb := X.2.1
  have hl : lv_has ls 3 [(0, .ref x), (1, .int c)] := hl
  refine lv_iload_n hx hb dX6_picks_0 rfl (lv_at hl 1 rfl) ?_
  refine lv_if_ge (tgt := 11) hx hb dX6_picks_1 (by decide) (fun c_1 => absurd c_1 (Int32.not_le.mpr h1)) (fun c_1 => ?_)
  refine lv_aload_n hx hb dX6_picks_4 rfl (lv_at hl 0 rfl) ?_
  refine lv_bipush (v := (-2)) hx hb dX6_picks_5 (by decide) ?_
  refine k_i X h [0] [] (wr := []) rfl rfl rfl (by decide) 0 0 (Nat.le_of_ble_eq_true rfl) (Nat.le_of_ble_eq_true rfl) (k_runV X h (As := [.int (-2)]) (rest := []) (c6_refuse_bad l g H.size x tx lk pa nO dO) cw_X6_54 [0] rfl rfl 0 kl6 rfl rfl rfl (Nat.le_of_ble_eq_true rfl) (Nat.le_of_ble_eq_true rfl) rfl hl.1 rfl (Nat.le_of_ble_eq_true rfl) dX6_picks_7 (Nat.le_of_ble_eq_true rfl) (Nat.le_of_ble_eq_true rfl)) (fun _ H locs h => ?_)
  have h : ST g A s [] H locs := h
  exact r_iret X h hAe () [] rfl rfl 0 0 (Nat.le_of_ble_eq_true rfl) (Nat.le_of_ble_eq_true rfl) rfl dX6_picks_10

set_option maxHeartbeats 4000000 in
set_option maxRecDepth 100000 in
/-- picks of a fresh object, case ok -/
theorem c6_picks_ok (l : Launch) (g : GE) (sz : Nat) (x : Nat) (tx : Nat) (lk : Nat) (pa : Nat) (nO : Nat) (dO : Nat) (np : Nat) (nv : Nat) (ns : Nat) (nsh : Nat) (c : Int32) (h1 : ¬ c < 0) : Met l yX6_picks (.code yX6_picks cX6_picks 3 (some .int) :: WL) { frames := 1, cells := 0, slots := 0, locals := 21 } (PR g [.ref x, .int c] [(x, .inr (6, [.ref tx, .ref lk, .ref pa, .int 0, .ref nO, .ref dO, .int 0, .int 0, .int 0])), (nO, .inr (4, [.ref np, .int 0, .ref nv, .ref ns, .int 0, .ref nsh]))] sz) (QI g [(x, .inr (6, [.ref tx, .ref lk, .ref pa, .int 0, .ref nO, .ref dO, .int 0, .int 0, .int 0])), (nO, .inr (4, [.ref np, .int 0, .ref nv, .ref ns, .int 0, .ref nsh]))] sz (-3) (fun _ : Unit => [])) 0 0 (va_A [(x, .inr (6, [.ref tx, .ref lk, .ref pa, .int 0, .ref nO, .ref dO, .int 0, .int 0, .int 0])), (nO, .inr (4, [.ref np, .int 0, .ref nv, .ref ns, .int 0, .ref nsh]))] sz) := by
  refine k_start (by decide) (Nat.le_of_ble_eq_true rfl) ?_
  intro pp ee s m bb mm cd A H locs hAe X h ls hl
  have X : CX g pp s m mm cd _ cX6_picks 3 RX6 "picks" (some .int) A := X
  have hx := X.1
  have hb := X.2.1
  have hl : lv_has ls 3 [(0, .ref x), (1, .int c)] := hl
  refine lv_iload_n hx hb dX6_picks_0 rfl (lv_at hl 1 rfl) ?_
  refine lv_if_ge (tgt := 11) hx hb dX6_picks_1 (by decide) (fun c_1 => ?_) (fun c_1 => absurd (Int32.not_lt.mp h1) c_1)
  refine lv_aload_n hx hb dX6_picks_11 rfl (lv_at hl 0 rfl) ?_
  refine r_get X h kl6 0 4 rfl (by decide) lk_X6_47 rfl dX6_picks_12 ?_
  refine k_q X h [1] [0] (wr := [(x, .inr (6, [.ref tx, .ref lk, .ref pa, .int 0, .ref nO, .ref dO, .int 0, .int 0, .int 0]))]) rfl rfl rfl (by decide) 0 0 (Nat.le_of_ble_eq_true rfl) (Nat.le_of_ble_eq_true rfl) (k_runV X h (As := []) (rest := []) (c4_upp0 l g H.size nO np nv ns nsh 0) cw_X6_119 [1] rfl rfl 1 kl4 rfl rfl rfl (Nat.le_of_ble_eq_true rfl) (Nat.le_of_ble_eq_true rfl) rfl hl.1 rfl (Nat.le_of_ble_eq_true rfl) dX6_picks_15 (Nat.le_of_ble_eq_true rfl) (Nat.le_of_ble_eq_true rfl)) (fun _ H locs h => ?_)
  have h : ST g A s [(x, .inr (6, [.ref tx, .ref lk, .ref pa, .int 0, .ref nO, .ref dO, .int 0, .int 0, .int 0])), (nO, .inr (4, [.ref np, .int 0, .ref nv, .ref ns, .int 0, .ref nsh]))] H locs := h
  refine W.eq (g2 := F0 m 18 ls [.null]) rfl ?_
  refine lv_astore_nN (lv' := [(2, .null), (0, .ref x), (1, .int c)]) hx hb dX6_picks_18 rfl hl (by decide) rfl (fun ls hl => ?_)
  refine lv_aload_nN hx hb dX6_picks_19 rfl (lv_at hl 0 rfl) ?_
  refine lv_ifnullN (tgt := 35) hx hb dX6_picks_20 (by decide) ?_
  refine lv_aload_n hx hb dX6_picks_35 rfl (lv_at hl 1 rfl) ?_
  refine lv_bipush (v := (-3)) hx hb dX6_picks_36 (by decide) ?_
  refine k_i X h [0] [1] (wr := [(nO, .inr (4, [.ref np, .int 0, .ref nv, .ref ns, .int 0, .ref nsh]))]) rfl rfl rfl (by decide) 0 0 (Nat.le_of_ble_eq_true rfl) (Nat.le_of_ble_eq_true rfl) (k_runV X h (As := [.int (-3)]) (rest := []) (c6_refuse_no l g H.size x tx lk pa nO dO) cw_X6_54 [0] rfl rfl 0 kl6 rfl rfl rfl (Nat.le_of_ble_eq_true rfl) (Nat.le_of_ble_eq_true rfl) rfl hl.1 rfl (Nat.le_of_ble_eq_true rfl) dX6_picks_38 (Nat.le_of_ble_eq_true rfl) (Nat.le_of_ble_eq_true rfl)) (fun _ H locs h => ?_)
  have h : ST g A s [(nO, .inr (4, [.ref np, .int 0, .ref nv, .ref ns, .int 0, .ref nsh]))] H locs := h
  exact r_iret X h hAe () [] rfl rfl 0 0 (Nat.le_of_ble_eq_true rfl) (Nat.le_of_ble_eq_true rfl) rfl dX6_picks_41

set_option maxHeartbeats 4000000 in
set_option maxRecDepth 100000 in
/-- ends of a fresh object, case  -/
theorem c6_ends (l : Launch) (g : GE) (sz : Nat) (x : Nat) (tx : Nat) (lk : Nat) (pa : Nat) (nO : Nat) (dO : Nat) (np : Nat) (nv : Nat) (ns : Nat) (nsh : Nat) : Met l yX6_ends (.code yX6_ends cX6_ends 1 (some .int) :: WL) { frames := 1, cells := 0, slots := 0, locals := 21 } (PR g [.ref x] [(x, .inr (6, [.ref tx, .ref lk, .ref pa, .int 0, .ref nO, .ref dO, .int 0, .int 0, .int 0])), (nO, .inr (4, [.ref np, .int 0, .ref nv, .ref ns, .int 0, .ref nsh]))] sz) (QI g [(x, .inr (6, [.ref tx, .ref lk, .ref pa, .int 0, .ref nO, .ref dO, .int 0, .int 0, .int 0])), (nO, .inr (4, [.ref np, .int 0, .ref nv, .ref ns, .int 0, .ref nsh]))] sz (-3) (fun _ : Unit => [])) 0 0 (va_A [(x, .inr (6, [.ref tx, .ref lk, .ref pa, .int 0, .ref nO, .ref dO, .int 0, .int 0, .int 0])), (nO, .inr (4, [.ref np, .int 0, .ref nv, .ref ns, .int 0, .ref nsh]))] sz) := by
  refine k_start (by decide) (Nat.le_of_ble_eq_true rfl) ?_
  intro pp ee s m bb mm cd A H locs hAe X h ls hl
  have X : CX g pp s m mm cd _ cX6_ends 1 RX6 "ends" (some .int) A := X
  have hx := X.1
  have hb := X.2.1
  have hl : lv_has ls 1 [(0, .ref x)] := hl
  refine lv_aload_n hx hb dX6_ends_0 rfl (lv_at hl 0 rfl) ?_
  refine r_get X h kl6 0 4 rfl (by decide) lk_X6_47 rfl dX6_ends_1 ?_
  refine r_get X h kl4 1 4 rfl (by decide) lk_X6_99 rfl dX6_ends_4 ?_
  refine lv_if_ne (tgt := 17) hx hb dX6_ends_7 (by decide) (fun c_1 => absurd (by decide) c_1) (fun c_1 => ?_)
  refine lv_aload_n hx hb dX6_ends_10 rfl (lv_at hl 0 rfl) ?_
  refine lv_bipush (v := (-3)) hx hb dX6_ends_11 (by decide) ?_
  refine k_i X h [0] [1] (wr := [(nO, .inr (4, [.ref np, .int 0, .ref nv, .ref ns, .int 0, .ref nsh]))]) rfl rfl rfl (by decide) 0 0 (Nat.le_of_ble_eq_true rfl) (Nat.le_of_ble_eq_true rfl) (k_runV X h (As := [.int (-3)]) (rest := []) (c6_refuse_no l g H.size x tx lk pa nO dO) cw_X6_54 [0] rfl rfl 0 kl6 rfl rfl rfl (Nat.le_of_ble_eq_true rfl) (Nat.le_of_ble_eq_true rfl) rfl hl.1 rfl (Nat.le_of_ble_eq_true rfl) dX6_ends_13 (Nat.le_of_ble_eq_true rfl) (Nat.le_of_ble_eq_true rfl)) (fun _ H locs h => ?_)
  have h : ST g A s [(nO, .inr (4, [.ref np, .int 0, .ref nv, .ref ns, .int 0, .ref nsh]))] H locs := h
  exact r_iret X h hAe () [] rfl rfl 0 0 (Nat.le_of_ble_eq_true rfl) (Nat.le_of_ble_eq_true rfl) rfl dX6_ends_16

set_option maxHeartbeats 4000000 in
set_option maxRecDepth 100000 in
/-- cuts of a fresh object, case lo -/
theorem c6_cuts_lo (l : Launch) (g : GE) (sz : Nat) (x : Nat) (tx : Nat) (lk : Nat) (pa : Nat) (nO : Nat) (dO : Nat) (np : Nat) (nv : Nat) (ns : Nat) (nsh : Nat) (nshb : Nat) (c : Int32) (n : Int32) (h1 : c < 0) : Met l yX6_cuts (.code yX6_cuts cX6_cuts 4 (some .int) :: WL) { frames := 1, cells := 0, slots := 0, locals := 21 } (PR g [.ref x, .int c, .int n] [(x, .inr (6, [.ref tx, .ref lk, .ref pa, .int 0, .ref nO, .ref dO, .int 0, .int 0, .int 0])), (nO, .inr (4, [.ref np, .int 0, .ref nv, .ref ns, .int 0, .ref nsh])), (nsh, .inr (2, [.int 241, .ref nshb, .int 0]))] sz) (QI g [(x, .inr (6, [.ref tx, .ref lk, .ref pa, .int 0, .ref nO, .ref dO, .int 0, .int 0, .int 0])), (nO, .inr (4, [.ref np, .int 0, .ref nv, .ref ns, .int 0, .ref nsh])), (nsh, .inr (2, [.int 241, .ref nshb, .int 0]))] sz (-2) (fun _ : Unit => [])) 0 0 (va_A [(x, .inr (6, [.ref tx, .ref lk, .ref pa, .int 0, .ref nO, .ref dO, .int 0, .int 0, .int 0])), (nO, .inr (4, [.ref np, .int 0, .ref nv, .ref ns, .int 0, .ref nsh])), (nsh, .inr (2, [.int 241, .ref nshb, .int 0]))] sz) := by
  refine k_start (by decide) (Nat.le_of_ble_eq_true rfl) ?_
  intro pp ee s m bb mm cd A H locs hAe X h ls hl
  have X : CX g pp s m mm cd _ cX6_cuts 4 RX6 "cuts" (some .int) A := X
  have hx := X.1
  have hb := X.2.1
  have hl : lv_has ls 4 [(0, .ref x), (1, .int c), (2, .int n)] := hl
  refine lv_aload_n hx hb dX6_cuts_0 rfl (lv_at hl 0 rfl) ?_
  refine r_get X h kl6 0 4 rfl (by decide) lk_X6_47 rfl dX6_cuts_1 ?_
  refine r_get X h kl4 1 5 rfl (by decide) lk_X6_131 rfl dX6_cuts_4 ?_
  refine k_i X h [2] [0, 1] (wr := [(x, .inr (6, [.ref tx, .ref lk, .ref pa, .int 0, .ref nO, .ref dO, .int 0, .int 0, .int 0])), (nO, .inr (4, [.ref np, .int 0, .ref nv, .ref ns, .int 0, .ref nsh]))]) rfl rfl rfl (by decide) 0 0 (Nat.le_of_ble_eq_true rfl) (Nat.le_of_ble_eq_true rfl) (k_runV X h (As := []) (rest := []) (c2_size l g H.size nsh 241 nshb 0) cw_X6_58 [2] rfl rfl 2 kl2 rfl rfl rfl (Nat.le_of_ble_eq_true rfl) (Nat.le_of_ble_eq_true rfl) rfl hl.1 rfl (Nat.le_of_ble_eq_true rfl) dX6_cuts_7 (Nat.le_of_ble_eq_true rfl) (Nat.le_of_ble_eq_true rfl)) (fun _ H locs h => ?_)
  have h : ST g A s [(x, .inr (6, [.ref tx, .ref lk, .ref pa, .int 0, .ref nO, .ref dO, .int 0, .int 0, .int 0])), (nO, .inr (4, [.ref np, .int 0, .ref nv, .ref ns, .int 0, .ref nsh])), (nsh, .inr (2, [.int 241, .ref nshb, .int 0]))] H locs := h
  refine lv_istore_n (lv' := [(3, .int 0), (0, .ref x), (1, .int c), (2, .int n)]) hx hb dX6_cuts_10 rfl hl (by decide) rfl (fun ls hl => ?_)
  refine lv_iload_n hx hb dX6_cuts_11 rfl (lv_at hl 2 rfl) ?_
  refine lv_if_lt (tgt := 32) hx hb dX6_cuts_12 (by decide) (fun c_1 => ?_) (fun c_1 => absurd h1 c_1)
  refine lv_aload_n hx hb dX6_cuts_32 rfl (lv_at hl 1 rfl) ?_
  refine lv_bipush (v := (-2)) hx hb dX6_cuts_33 (by decide) ?_
  refine k_i X h [0] [1, 2] (wr := [(nO, .inr (4, [.ref np, .int 0, .ref nv, .ref ns, .int 0, .ref nsh])), (nsh, .inr (2, [.int 241, .ref nshb, .int 0]))]) rfl rfl rfl (by decide) 0 0 (Nat.le_of_ble_eq_true rfl) (Nat.le_of_ble_eq_true rfl) (k_runV X h (As := [.int (-2)]) (rest := []) (c6_refuse_bad l g H.size x tx lk pa nO dO) cw_X6_54 [0] rfl rfl 0 kl6 rfl rfl rfl (Nat.le_of_ble_eq_true rfl) (Nat.le_of_ble_eq_true rfl) rfl hl.1 rfl (Nat.le_of_ble_eq_true rfl) dX6_cuts_35 (Nat.le_of_ble_eq_true rfl) (Nat.le_of_ble_eq_true rfl)) (fun _ H locs h => ?_)
  have h : ST g A s [(nO, .inr (4, [.ref np, .int 0, .ref nv, .ref ns, .int 0, .ref nsh])), (nsh, .inr (2, [.int 241, .ref nshb, .int 0]))] H locs := h
  exact r_iret X h hAe () [] rfl rfl 0 0 (Nat.le_of_ble_eq_true rfl) (Nat.le_of_ble_eq_true rfl) rfl dX6_cuts_38

set_option maxHeartbeats 4000000 in
set_option maxRecDepth 100000 in
/-- cuts of a fresh object, case hi -/
theorem c6_cuts_hi (l : Launch) (g : GE) (sz : Nat) (x : Nat) (tx : Nat) (lk : Nat) (pa : Nat) (nO : Nat) (dO : Nat) (np : Nat) (nv : Nat) (ns : Nat) (nsh : Nat) (nshb : Nat) (c : Int32) (n : Int32) (h1 : ¬ c < 0) (h2 : 0 < c) : Met l yX6_cuts (.code yX6_cuts cX6_cuts 4 (some .int) :: WL) { frames := 1, cells := 0, slots := 0, locals := 21 } (PR g [.ref x, .int c, .int n] [(x, .inr (6, [.ref tx, .ref lk, .ref pa, .int 0, .ref nO, .ref dO, .int 0, .int 0, .int 0])), (nO, .inr (4, [.ref np, .int 0, .ref nv, .ref ns, .int 0, .ref nsh])), (nsh, .inr (2, [.int 241, .ref nshb, .int 0]))] sz) (QI g [(x, .inr (6, [.ref tx, .ref lk, .ref pa, .int 0, .ref nO, .ref dO, .int 0, .int 0, .int 0])), (nO, .inr (4, [.ref np, .int 0, .ref nv, .ref ns, .int 0, .ref nsh])), (nsh, .inr (2, [.int 241, .ref nshb, .int 0]))] sz (-2) (fun _ : Unit => [])) 0 0 (va_A [(x, .inr (6, [.ref tx, .ref lk, .ref pa, .int 0, .ref nO, .ref dO, .int 0, .int 0, .int 0])), (nO, .inr (4, [.ref np, .int 0, .ref nv, .ref ns, .int 0, .ref nsh])), (nsh, .inr (2, [.int 241, .ref nshb, .int 0]))] sz) := by
  refine k_start (by decide) (Nat.le_of_ble_eq_true rfl) ?_
  intro pp ee s m bb mm cd A H locs hAe X h ls hl
  have X : CX g pp s m mm cd _ cX6_cuts 4 RX6 "cuts" (some .int) A := X
  have hx := X.1
  have hb := X.2.1
  have hl : lv_has ls 4 [(0, .ref x), (1, .int c), (2, .int n)] := hl
  refine lv_aload_n hx hb dX6_cuts_0 rfl (lv_at hl 0 rfl) ?_
  refine r_get X h kl6 0 4 rfl (by decide) lk_X6_47 rfl dX6_cuts_1 ?_
  refine r_get X h kl4 1 5 rfl (by decide) lk_X6_131 rfl dX6_cuts_4 ?_
  refine k_i X h [2] [0, 1] (wr := [(x, .inr (6, [.ref tx, .ref lk, .ref pa, .int 0, .ref nO, .ref dO, .int 0, .int 0, .int 0])), (nO, .inr (4, [.ref np, .int 0, .ref nv, .ref ns, .int 0, .ref nsh]))]) rfl rfl rfl (by decide) 0 0 (Nat.le_of_ble_eq_true rfl) (Nat.le_of_ble_eq_true rfl) (k_runV X h (As := []) (rest := []) (c2_size l g H.size nsh 241 nshb 0) cw_X6_58 [2] rfl rfl 2 kl2 rfl rfl rfl (Nat.le_of_ble_eq_true rfl) (Nat.le_of_ble_eq_true rfl) rfl hl.1 rfl (Nat.le_of_ble_eq_true rfl) dX6_cuts_7 (Nat.le_of_ble_eq_true rfl) (Nat.le_of_ble_eq_true rfl)) (fun _ H locs h => ?_)
  have h : ST g A s [(x, .inr (6, [.ref tx, .ref lk, .ref pa, .int 0, .ref nO, .ref dO, .int 0, .int 0, .int 0])), (nO, .inr (4, [.ref np, .int 0, .ref nv, .ref ns, .int 0, .ref nsh])), (nsh, .inr (2, [.int 241, .ref nshb, .int 0]))] H locs := h
  refine lv_istore_n (lv' := [(3, .int 0), (0, .ref x), (1, .int c), (2, .int n)]) hx hb dX6_cuts_10 rfl hl (by decide) rfl (fun ls hl => ?_)
  refine lv_iload_n hx hb dX6_cuts_11 rfl (lv_at hl 2 rfl) ?_
  refine lv_if_lt (tgt := 32) hx hb dX6_cuts_12 (by decide) (fun c_1 => absurd c_1 h1) (fun c_1 => ?_)
  refine lv_iload_n hx hb dX6_cuts_15 rfl (lv_at hl 2 rfl) ?_
  refine lv_iload_n hx hb dX6_cuts_16 rfl (lv_at hl 0 rfl) ?_
  refine lv_icmp_gt (tgt := 32) hx hb dX6_cuts_17 (by decide) (fun c_2 => ?_) (fun c_2 => absurd h2 c_2)
  refine lv_aload_n hx hb dX6_cuts_32 rfl (lv_at hl 1 rfl) ?_
  refine lv_bipush (v := (-2)) hx hb dX6_cuts_33 (by decide) ?_
  refine k_i X h [0] [1, 2] (wr := [(nO, .inr (4, [.ref np, .int 0, .ref nv, .ref ns, .int 0, .ref nsh])), (nsh, .inr (2, [.int 241, .ref nshb, .int 0]))]) rfl rfl rfl (by decide) 0 0 (Nat.le_of_ble_eq_true rfl) (Nat.le_of_ble_eq_true rfl) (k_runV X h (As := [.int (-2)]) (rest := []) (c6_refuse_bad l g H.size x tx lk pa nO dO) cw_X6_54 [0] rfl rfl 0 kl6 rfl rfl rfl (Nat.le_of_ble_eq_true rfl) (Nat.le_of_ble_eq_true rfl) rfl hl.1 rfl (Nat.le_of_ble_eq_true rfl) dX6_cuts_35 (Nat.le_of_ble_eq_true rfl) (Nat.le_of_ble_eq_true rfl)) (fun _ H locs h => ?_)
  have h : ST g A s [(nO, .inr (4, [.ref np, .int 0, .ref nv, .ref ns, .int 0, .ref nsh])), (nsh, .inr (2, [.int 241, .ref nshb, .int 0]))] H locs := h
  exact r_iret X h hAe () [] rfl rfl 0 0 (Nat.le_of_ble_eq_true rfl) (Nat.le_of_ble_eq_true rfl) rfl dX6_cuts_38

set_option maxHeartbeats 4000000 in
set_option maxRecDepth 100000 in
/-- cuts of a fresh object, case nlo -/
theorem c6_cuts_nlo (l : Launch) (g : GE) (sz : Nat) (x : Nat) (tx : Nat) (lk : Nat) (pa : Nat) (nO : Nat) (dO : Nat) (np : Nat) (nv : Nat) (ns : Nat) (nsh : Nat) (nshb : Nat) (n : Int32) (h1 : n < 1) (h2 : ¬ 1 ≤ n) : Met l yX6_cuts (.code yX6_cuts cX6_cuts 4 (some .int) :: WL) { frames := 1, cells := 0, slots := 0, locals := 21 } (PR g [.ref x, .int 0, .int n] [(x, .inr (6, [.ref tx, .ref lk, .ref pa, .int 0, .ref nO, .ref dO, .int 0, .int 0, .int 0])), (nO, .inr (4, [.ref np, .int 0, .ref nv, .ref ns, .int 0, .ref nsh])), (nsh, .inr (2, [.int 241, .ref nshb, .int 0]))] sz) (QI g [(x, .inr (6, [.ref tx, .ref lk, .ref pa, .int 0, .ref nO, .ref dO, .int 0, .int 0, .int 0])), (nO, .inr (4, [.ref np, .int 0, .ref nv, .ref ns, .int 0, .ref nsh])), (nsh, .inr (2, [.int 241, .ref nshb, .int 0]))] sz (-2) (fun _ : Unit => [])) 0 0 (va_A [(x, .inr (6, [.ref tx, .ref lk, .ref pa, .int 0, .ref nO, .ref dO, .int 0, .int 0, .int 0])), (nO, .inr (4, [.ref np, .int 0, .ref nv, .ref ns, .int 0, .ref nsh])), (nsh, .inr (2, [.int 241, .ref nshb, .int 0]))] sz) := by
  refine k_start (by decide) (Nat.le_of_ble_eq_true rfl) ?_
  intro pp ee s m bb mm cd A H locs hAe X h ls hl
  have X : CX g pp s m mm cd _ cX6_cuts 4 RX6 "cuts" (some .int) A := X
  have hx := X.1
  have hb := X.2.1
  have hl : lv_has ls 4 [(0, .ref x), (1, .int 0), (2, .int n)] := hl
  refine lv_aload_n hx hb dX6_cuts_0 rfl (lv_at hl 0 rfl) ?_
  refine r_get X h kl6 0 4 rfl (by decide) lk_X6_47 rfl dX6_cuts_1 ?_
  refine r_get X h kl4 1 5 rfl (by decide) lk_X6_131 rfl dX6_cuts_4 ?_
  refine k_i X h [2] [0, 1] (wr := [(x, .inr (6, [.ref tx, .ref lk, .ref pa, .int 0, .ref nO, .ref dO, .int 0, .int 0, .int 0])), (nO, .inr (4, [.ref np, .int 0, .ref nv, .ref ns, .int 0, .ref nsh]))]) rfl rfl rfl (by decide) 0 0 (Nat.le_of_ble_eq_true rfl) (Nat.le_of_ble_eq_true rfl) (k_runV X h (As := []) (rest := []) (c2_size l g H.size nsh 241 nshb 0) cw_X6_58 [2] rfl rfl 2 kl2 rfl rfl rfl (Nat.le_of_ble_eq_true rfl) (Nat.le_of_ble_eq_true rfl) rfl hl.1 rfl (Nat.le_of_ble_eq_true rfl) dX6_cuts_7 (Nat.le_of_ble_eq_true rfl) (Nat.le_of_ble_eq_true rfl)) (fun _ H locs h => ?_)
  have h : ST g A s [(x, .inr (6, [.ref tx, .ref lk, .ref pa, .int 0, .ref nO, .ref dO, .int 0, .int 0, .int 0])), (nO, .inr (4, [.ref np, .int 0, .ref nv, .ref ns, .int 0, .ref nsh])), (nsh, .inr (2, [.int 241, .ref nshb, .int 0]))] H locs := h
  refine lv_istore_n (lv' := [(3, .int 0), (0, .ref x), (1, .int 0), (2, .int n)]) hx hb dX6_cuts_10 rfl hl (by decide) rfl (fun ls hl => ?_)
  refine lv_iload_n hx hb dX6_cuts_11 rfl (lv_at hl 2 rfl) ?_
  refine lv_if_lt (tgt := 32) hx hb dX6_cuts_12 (by decide) (fun c_1 => absurd c_1 (by decide)) (fun c_1 => ?_)
  refine lv_iload_n hx hb dX6_cuts_15 rfl (lv_at hl 2 rfl) ?_
  refine lv_iload_n hx hb dX6_cuts_16 rfl (lv_at hl 0 rfl) ?_
  refine lv_icmp_gt (tgt := 32) hx hb dX6_cuts_17 (by decide) (fun c_2 => absurd c_2 (by decide)) (fun c_2 => ?_)
  refine lv_iload_n hx hb dX6_cuts_20 rfl (lv_at hl 3 rfl) ?_
  refine lv_iconst (v := 1) hx hb dX6_cuts_21 (by decide) ?_
  refine lv_icmp_lt (tgt := 32) hx hb dX6_cuts_22 (by decide) (fun c_3 => ?_) (fun c_3 => absurd h1 c_3)
  refine lv_aload_n hx hb dX6_cuts_32 rfl (lv_at hl 1 rfl) ?_
  refine lv_bipush (v := (-2)) hx hb dX6_cuts_33 (by decide) ?_
  refine k_i X h [0] [1, 2] (wr := [(nO, .inr (4, [.ref np, .int 0, .ref nv, .ref ns, .int 0, .ref nsh])), (nsh, .inr (2, [.int 241, .ref nshb, .int 0]))]) rfl rfl rfl (by decide) 0 0 (Nat.le_of_ble_eq_true rfl) (Nat.le_of_ble_eq_true rfl) (k_runV X h (As := [.int (-2)]) (rest := []) (c6_refuse_bad l g H.size x tx lk pa nO dO) cw_X6_54 [0] rfl rfl 0 kl6 rfl rfl rfl (Nat.le_of_ble_eq_true rfl) (Nat.le_of_ble_eq_true rfl) rfl hl.1 rfl (Nat.le_of_ble_eq_true rfl) dX6_cuts_35 (Nat.le_of_ble_eq_true rfl) (Nat.le_of_ble_eq_true rfl)) (fun _ H locs h => ?_)
  have h : ST g A s [(nO, .inr (4, [.ref np, .int 0, .ref nv, .ref ns, .int 0, .ref nsh])), (nsh, .inr (2, [.int 241, .ref nshb, .int 0]))] H locs := h
  exact r_iret X h hAe () [] rfl rfl 0 0 (Nat.le_of_ble_eq_true rfl) (Nat.le_of_ble_eq_true rfl) rfl dX6_cuts_38

set_option maxHeartbeats 4000000 in
set_option maxRecDepth 100000 in
/-- cuts of a fresh object, case nhi -/
theorem c6_cuts_nhi (l : Launch) (g : GE) (sz : Nat) (x : Nat) (tx : Nat) (lk : Nat) (pa : Nat) (nO : Nat) (dO : Nat) (np : Nat) (nv : Nat) (ns : Nat) (nsh : Nat) (nshb : Nat) (n : Int32) (h1 : ¬ n < 1) (h2 : 0 < n) (h3 : 1 ≤ n) : Met l yX6_cuts (.code yX6_cuts cX6_cuts 4 (some .int) :: WL) { frames := 1, cells := 0, slots := 0, locals := 21 } (PR g [.ref x, .int 0, .int n] [(x, .inr (6, [.ref tx, .ref lk, .ref pa, .int 0, .ref nO, .ref dO, .int 0, .int 0, .int 0])), (nO, .inr (4, [.ref np, .int 0, .ref nv, .ref ns, .int 0, .ref nsh])), (nsh, .inr (2, [.int 241, .ref nshb, .int 0]))] sz) (QI g [(x, .inr (6, [.ref tx, .ref lk, .ref pa, .int 0, .ref nO, .ref dO, .int 0, .int 0, .int 0])), (nO, .inr (4, [.ref np, .int 0, .ref nv, .ref ns, .int 0, .ref nsh])), (nsh, .inr (2, [.int 241, .ref nshb, .int 0]))] sz (-2) (fun _ : Unit => [])) 0 0 (va_A [(x, .inr (6, [.ref tx, .ref lk, .ref pa, .int 0, .ref nO, .ref dO, .int 0, .int 0, .int 0])), (nO, .inr (4, [.ref np, .int 0, .ref nv, .ref ns, .int 0, .ref nsh])), (nsh, .inr (2, [.int 241, .ref nshb, .int 0]))] sz) := by
  refine k_start (by decide) (Nat.le_of_ble_eq_true rfl) ?_
  intro pp ee s m bb mm cd A H locs hAe X h ls hl
  have X : CX g pp s m mm cd _ cX6_cuts 4 RX6 "cuts" (some .int) A := X
  have hx := X.1
  have hb := X.2.1
  have hl : lv_has ls 4 [(0, .ref x), (1, .int 0), (2, .int n)] := hl
  refine lv_aload_n hx hb dX6_cuts_0 rfl (lv_at hl 0 rfl) ?_
  refine r_get X h kl6 0 4 rfl (by decide) lk_X6_47 rfl dX6_cuts_1 ?_
  refine r_get X h kl4 1 5 rfl (by decide) lk_X6_131 rfl dX6_cuts_4 ?_
  refine k_i X h [2] [0, 1] (wr := [(x, .inr (6, [.ref tx, .ref lk, .ref pa, .int 0, .ref nO, .ref dO, .int 0, .int 0, .int 0])), (nO, .inr (4, [.ref np, .int 0, .ref nv, .ref ns, .int 0, .ref nsh]))]) rfl rfl rfl (by decide) 0 0 (Nat.le_of_ble_eq_true rfl) (Nat.le_of_ble_eq_true rfl) (k_runV X h (As := []) (rest := []) (c2_size l g H.size nsh 241 nshb 0) cw_X6_58 [2] rfl rfl 2 kl2 rfl rfl rfl (Nat.le_of_ble_eq_true rfl) (Nat.le_of_ble_eq_true rfl) rfl hl.1 rfl (Nat.le_of_ble_eq_true rfl) dX6_cuts_7 (Nat.le_of_ble_eq_true rfl) (Nat.le_of_ble_eq_true rfl)) (fun _ H locs h => ?_)
  have h : ST g A s [(x, .inr (6, [.ref tx, .ref lk, .ref pa, .int 0, .ref nO, .ref dO, .int 0, .int 0, .int 0])), (nO, .inr (4, [.ref np, .int 0, .ref nv, .ref ns, .int 0, .ref nsh])), (nsh, .inr (2, [.int 241, .ref nshb, .int 0]))] H locs := h
  refine lv_istore_n (lv' := [(3, .int 0), (0, .ref x), (1, .int 0), (2, .int n)]) hx hb dX6_cuts_10 rfl hl (by decide) rfl (fun ls hl => ?_)
  refine lv_iload_n hx hb dX6_cuts_11 rfl (lv_at hl 2 rfl) ?_
  refine lv_if_lt (tgt := 32) hx hb dX6_cuts_12 (by decide) (fun c_1 => absurd c_1 (by decide)) (fun c_1 => ?_)
  refine lv_iload_n hx hb dX6_cuts_15 rfl (lv_at hl 2 rfl) ?_
  refine lv_iload_n hx hb dX6_cuts_16 rfl (lv_at hl 0 rfl) ?_
  refine lv_icmp_gt (tgt := 32) hx hb dX6_cuts_17 (by decide) (fun c_2 => absurd c_2 (by decide)) (fun c_2 => ?_)
  refine lv_iload_n hx hb dX6_cuts_20 rfl (lv_at hl 3 rfl) ?_
  refine lv_iconst (v := 1) hx hb dX6_cuts_21 (by decide) ?_
  refine lv_icmp_lt (tgt := 32) hx hb dX6_cuts_22 (by decide) (fun c_3 => absurd c_3 h1) (fun c_3 => ?_)
  refine lv_iload_n hx hb dX6_cuts_25 rfl (lv_at hl 3 rfl) ?_
  refine lv_iload_n hx hb dX6_cuts_26 rfl (lv_at hl 0 rfl) ?_
  refine lv_iload_n hx hb dX6_cuts_27 rfl (lv_at hl 2 rfl) ?_
  refine lv_isub hx hb dX6_cuts_28 ?_
  refine r_vi (y := 0) (by decide) ?_
  refine lv_icmp_le (tgt := 39) hx hb dX6_cuts_29 (by decide) (fun c_4 => absurd c_4 (Int32.not_le.mpr h2)) (fun c_4 => ?_)
  refine lv_aload_n hx hb dX6_cuts_32 rfl (lv_at hl 1 rfl) ?_
  refine lv_bipush (v := (-2)) hx hb dX6_cuts_33 (by decide) ?_
  refine k_i X h [0] [1, 2] (wr := [(nO, .inr (4, [.ref np, .int 0, .ref nv, .ref ns, .int 0, .ref nsh])), (nsh, .inr (2, [.int 241, .ref nshb, .int 0]))]) rfl rfl rfl (by decide) 0 0 (Nat.le_of_ble_eq_true rfl) (Nat.le_of_ble_eq_true rfl) (k_runV X h (As := [.int (-2)]) (rest := []) (c6_refuse_bad l g H.size x tx lk pa nO dO) cw_X6_54 [0] rfl rfl 0 kl6 rfl rfl rfl (Nat.le_of_ble_eq_true rfl) (Nat.le_of_ble_eq_true rfl) rfl hl.1 rfl (Nat.le_of_ble_eq_true rfl) dX6_cuts_35 (Nat.le_of_ble_eq_true rfl) (Nat.le_of_ble_eq_true rfl)) (fun _ H locs h => ?_)
  have h : ST g A s [(nO, .inr (4, [.ref np, .int 0, .ref nv, .ref ns, .int 0, .ref nsh])), (nsh, .inr (2, [.int 241, .ref nshb, .int 0]))] H locs := h
  exact r_iret X h hAe () [] rfl rfl 0 0 (Nat.le_of_ble_eq_true rfl) (Nat.le_of_ble_eq_true rfl) rfl dX6_cuts_38

set_option maxHeartbeats 4000000 in
set_option maxRecDepth 100000 in
/-- at of a fresh object, case lo -/
theorem c6_at_lo (l : Launch) (g : GE) (sz : Nat) (x : Nat) (tx : Nat) (lk : Nat) (pa : Nat) (nO : Nat) (dO : Nat) (c : Int32) (h1 : c < 0) : Met l yX6_at (.code yX6_at cX6_at 2 (some .int) :: WL) { frames := 1, cells := 0, slots := 0, locals := 21 } (PR g [.ref x, .int c] [(x, .inr (6, [.ref tx, .ref lk, .ref pa, .int 0, .ref nO, .ref dO, .int 0, .int 0, .int 0]))] sz) (QI g [(x, .inr (6, [.ref tx, .ref lk, .ref pa, .int 0, .ref nO, .ref dO, .int 0, .int 0, .int 0]))] sz (-2) (fun _ : Unit => [])) 0 0 (va_A [(x, .inr (6, [.ref tx, .ref lk, .ref pa, .int 0, .ref nO, .ref dO, .int 0, .int 0, .int 0]))] sz) := by
  refine k_start (by decide) (Nat.le_of_ble_eq_true rfl) ?_
  intro pp ee s m bb mm cd A H locs hAe X h ls hl
  have X : CX g pp s m mm cd _ cX6_at 2 RX6 "at" (some .int) A := X
  have hx := X.1
  have hb := X.2.1
  have hl : lv_has ls 2 [(0, .ref x), (1, .int c)] := hl
  refine lv_iload_n hx hb dX6_at_0 rfl (lv_at hl 1 rfl) ?_
  refine lv_if_ge (tgt := 13) hx hb dX6_at_1 (by decide) (fun c_1 => absurd c_1 (Int32.not_le.mpr h1)) (fun c_1 => ?_)
  refine lv_aload_n hx hb dX6_at_4 rfl (lv_at hl 0 rfl) ?_
  refine lv_bipush (v := (-2)) hx hb dX6_at_5 (by decide) ?_
  refine k_i X h [0] [] (wr := []) rfl rfl rfl (by decide) 0 0 (Nat.le_of_ble_eq_true rfl) (Nat.le_of_ble_eq_true rfl) (k_runV X h (As := [.int (-2)]) (rest := []) (c6_refuse_bad l g H.size x tx lk pa nO dO) cw_X6_54 [0] rfl rfl 0 kl6 rfl rfl rfl (Nat.le_of_ble_eq_true rfl) (Nat.le_of_ble_eq_true rfl) rfl hl.1 rfl (Nat.le_of_ble_eq_true rfl) dX6_at_7 (Nat.le_of_ble_eq_true rfl) (Nat.le_of_ble_eq_true rfl)) (fun _ H locs h => ?_)
  have h : ST g A s [] H locs := h
  refine lv_goto (tgt := 24) hx hb dX6_at_10 (by decide) ?_
  exact r_iret X h hAe () [] rfl rfl 0 0 (Nat.le_of_ble_eq_true rfl) (Nat.le_of_ble_eq_true rfl) rfl dX6_at_24

set_option maxHeartbeats 4000000 in
set_option maxRecDepth 100000 in
/-- at of a fresh object, case ok -/
theorem c6_at_ok (l : Launch) (g : GE) (sz : Nat) (x : Nat) (tx : Nat) (lk : Nat) (pa : Nat) (nO : Nat) (dO : Nat) (np : Nat) (nv : Nat) (ns : Nat) (nsh : Nat) (nshb : Nat) (c : Int32) (h1 : ¬ c < 0) (h2 : 0 ≤ c) : Met l yX6_at (.code yX6_at cX6_at 2 (some .int) :: WL) { frames := 1, cells := 0, slots := 0, locals := 21 } (PR g [.ref x, .int c] [(x, .inr (6, [.ref tx, .ref lk, .ref pa, .int 0, .ref nO, .ref dO, .int 0, .int 0, .int 0])), (nO, .inr (4, [.ref np, .int 0, .ref nv, .ref ns, .int 0, .ref nsh])), (nsh, .inr (2, [.int 241, .ref nshb, .int 0]))] sz) (QI g [(x, .inr (6, [.ref tx, .ref lk, .ref pa, .int 0, .ref nO, .ref dO, .int 0, .int 0, .int 0])), (nO, .inr (4, [.ref np, .int 0, .ref nv, .ref ns, .int 0, .ref nsh])), (nsh, .inr (2, [.int 241, .ref nshb, .int 0]))] sz (-1) (fun _ : Unit => [])) 0 0 (va_A [(x, .inr (6, [.ref tx, .ref lk, .ref pa, .int 0, .ref nO, .ref dO, .int 0, .int 0, .int 0])), (nO, .inr (4, [.ref np, .int 0, .ref nv, .ref ns, .int 0, .ref nsh])), (nsh, .inr (2, [.int 241, .ref nshb, .int 0]))] sz) := by
  refine k_start (by decide) (Nat.le_of_ble_eq_true rfl) ?_
  intro pp ee s m bb mm cd A H locs hAe X h ls hl
  have X : CX g pp s m mm cd _ cX6_at 2 RX6 "at" (some .int) A := X
  have hx := X.1
  have hb := X.2.1
  have hl : lv_has ls 2 [(0, .ref x), (1, .int c)] := hl
  refine lv_iload_n hx hb dX6_at_0 rfl (lv_at hl 1 rfl) ?_
  refine lv_if_ge (tgt := 13) hx hb dX6_at_1 (by decide) (fun c_1 => ?_) (fun c_1 => absurd h2 c_1)
  refine lv_aload_n hx hb dX6_at_13 rfl (lv_at hl 0 rfl) ?_
  refine r_get X h kl6 0 4 rfl (by decide) lk_X6_47 rfl dX6_at_14 ?_
  refine r_get X h kl4 1 5 rfl (by decide) lk_X6_131 rfl dX6_at_17 ?_
  refine lv_iload_n hx hb dX6_at_20 rfl (lv_at hl 1 rfl) ?_
  refine k_i X h [2] [0, 1] (wr := [(x, .inr (6, [.ref tx, .ref lk, .ref pa, .int 0, .ref nO, .ref dO, .int 0, .int 0, .int 0])), (nO, .inr (4, [.ref np, .int 0, .ref nv, .ref ns, .int 0, .ref nsh]))]) rfl rfl rfl (by decide) 0 0 (Nat.le_of_ble_eq_true rfl) (Nat.le_of_ble_eq_true rfl) (k_runV X h (As := [.int c]) (rest := []) (c2_get_none l g H.size nsh 241 nshb c h1) cw_X6_166 [2] rfl rfl 2 kl2 rfl rfl rfl (Nat.le_of_ble_eq_true rfl) (Nat.le_of_ble_eq_true rfl) rfl hl.1 rfl (Nat.le_of_ble_eq_true rfl) dX6_at_21 (Nat.le_of_ble_eq_true rfl) (Nat.le_of_ble_eq_true rfl)) (fun _ H locs h => ?_)
  have h : ST g A s [(x, .inr (6, [.ref tx, .ref lk, .ref pa, .int 0, .ref nO, .ref dO, .int 0, .int 0, .int 0])), (nO, .inr (4, [.ref np, .int 0, .ref nv, .ref ns, .int 0, .ref nsh])), (nsh, .inr (2, [.int 241, .ref nshb, .int 0]))] H locs := h
  exact r_iret X h hAe () [] rfl rfl 0 0 (Nat.le_of_ble_eq_true rfl) (Nat.le_of_ble_eq_true rfl) rfl dX6_at_24

set_option maxHeartbeats 4000000 in
set_option maxRecDepth 100000 in
/-- stop of a fresh object, case lo -/
theorem c6_stop_lo (l : Launch) (g : GE) (sz : Nat) (x : Nat) (tx : Nat) (lk : Nat) (pa : Nat) (nO : Nat) (dO : Nat) (c : Int32) (i : Int32) (h1 : c < 0) : Met l yX6_stop (.code yX6_stop cX6_stop 4 (some .int) :: WL) { frames := 1, cells := 0, slots := 0, locals := 21 } (PR g [.ref x, .int c, .int i] [(x, .inr (6, [.ref tx, .ref lk, .ref pa, .int 0, .ref nO, .ref dO, .int 0, .int 0, .int 0]))] sz) (QI g [(x, .inr (6, [.ref tx, .ref lk, .ref pa, .int 0, .ref nO, .ref dO, .int 0, .int 0, .int 0]))] sz (-2) (fun _ : Unit => [])) 0 0 (va_A [(x, .inr (6, [.ref tx, .ref lk, .ref pa, .int 0, .ref nO, .ref dO, .int 0, .int 0, .int 0]))] sz) := by
  refine k_start (by decide) (Nat.le_of_ble_eq_true rfl) ?_
  intro pp ee s m bb mm cd A H locs hAe X h ls hl
  have X : CX g pp s m mm cd _ cX6_stop 4 RX6 "stop" (some .int) A := X
  have hx := X.1
  have hb := X.2.1
  have hl : lv_has ls 4 [(0, .ref x), (1, .int c), (2, .int i)] := hl
  refine lv_iload_n hx hb dX6_stop_0 rfl (lv_at hl 1 rfl) ?_
  refine k_i X h [] [0] (wr := [(x, .inr (6, [.ref tx, .ref lk, .ref pa, .int 0, .ref nO, .ref dO, .int 0, .int 0, .int 0]))]) rfl rfl rfl (by decide) 0 0 (Nat.le_of_ble_eq_true rfl) (Nat.le_of_ble_eq_true rfl) (k_runS X h (As := [.int c]) (rest := []) (c6_isStop_lo l g H.size c h1) cw_X6_176 [] rfl rfl rfl rfl (Nat.le_of_ble_eq_true rfl) (Nat.le_of_ble_eq_true rfl) rfl hl.1 rfl (Nat.le_of_ble_eq_true rfl) dX6_stop_1 (Nat.le_of_ble_eq_true rfl) (Nat.le_of_ble_eq_true rfl)) (fun _ H locs h => ?_)
  have h : ST g A s [(x, .inr (6, [.ref tx, .ref lk, .ref pa, .int 0, .ref nO, .ref dO, .int 0, .int 0, .int 0]))] H locs := h
  refine lv_if_eq (tgt := 16) hx hb dX6_stop_4 (by decide) (fun c_1 => ?_) (fun c_1 => absurd (by decide) c_1)
  refine lv_aload_n hx hb dX6_stop_16 rfl (lv_at hl 0 rfl) ?_
  refine lv_bipush (v := (-2)) hx hb dX6_stop_17 (by decide) ?_
  refine k_i X h [0] [] (wr := []) rfl rfl rfl (by decide) 0 0 (Nat.le_of_ble_eq_true rfl) (Nat.le_of_ble_eq_true rfl) (k_runV X h (As := [.int (-2)]) (rest := []) (c6_refuse_bad l g H.size x tx lk pa nO dO) cw_X6_54 [0] rfl rfl 0 kl6 rfl rfl rfl (Nat.le_of_ble_eq_true rfl) (Nat.le_of_ble_eq_true rfl) rfl hl.1 rfl (Nat.le_of_ble_eq_true rfl) dX6_stop_19 (Nat.le_of_ble_eq_true rfl) (Nat.le_of_ble_eq_true rfl)) (fun _ H locs h => ?_)
  have h : ST g A s [] H locs := h
  exact r_iret X h hAe () [] rfl rfl 0 0 (Nat.le_of_ble_eq_true rfl) (Nat.le_of_ble_eq_true rfl) rfl dX6_stop_22

set_option maxHeartbeats 4000000 in
set_option maxRecDepth 100000 in
/-- stop of a fresh object, case hi -/
theorem c6_stop_hi (l : Launch) (g : GE) (sz : Nat) (x : Nat) (tx : Nat) (lk : Nat) (pa : Nat) (nO : Nat) (dO : Nat) (c : Int32) (i : Int32) (h1 : ¬ c < 0) (h2 : 9 < c) (h3 : 10 ≤ c) : Met l yX6_stop (.code yX6_stop cX6_stop 4 (some .int) :: WL) { frames := 1, cells := 0, slots := 0, locals := 21 } (PR g [.ref x, .int c, .int i] [(x, .inr (6, [.ref tx, .ref lk, .ref pa, .int 0, .ref nO, .ref dO, .int 0, .int 0, .int 0]))] sz) (QI g [(x, .inr (6, [.ref tx, .ref lk, .ref pa, .int 0, .ref nO, .ref dO, .int 0, .int 0, .int 0]))] sz (-2) (fun _ : Unit => [])) 0 0 (va_A [(x, .inr (6, [.ref tx, .ref lk, .ref pa, .int 0, .ref nO, .ref dO, .int 0, .int 0, .int 0]))] sz) := by
  refine k_start (by decide) (Nat.le_of_ble_eq_true rfl) ?_
  intro pp ee s m bb mm cd A H locs hAe X h ls hl
  have X : CX g pp s m mm cd _ cX6_stop 4 RX6 "stop" (some .int) A := X
  have hx := X.1
  have hb := X.2.1
  have hl : lv_has ls 4 [(0, .ref x), (1, .int c), (2, .int i)] := hl
  refine lv_iload_n hx hb dX6_stop_0 rfl (lv_at hl 1 rfl) ?_
  refine k_i X h [] [0] (wr := [(x, .inr (6, [.ref tx, .ref lk, .ref pa, .int 0, .ref nO, .ref dO, .int 0, .int 0, .int 0]))]) rfl rfl rfl (by decide) 0 0 (Nat.le_of_ble_eq_true rfl) (Nat.le_of_ble_eq_true rfl) (k_runS X h (As := [.int c]) (rest := []) (c6_isStop_hi l g H.size c h1 h2 h3) cw_X6_176 [] rfl rfl rfl rfl (Nat.le_of_ble_eq_true rfl) (Nat.le_of_ble_eq_true rfl) rfl hl.1 rfl (Nat.le_of_ble_eq_true rfl) dX6_stop_1 (Nat.le_of_ble_eq_true rfl) (Nat.le_of_ble_eq_true rfl)) (fun _ H locs h => ?_)
  have h : ST g A s [(x, .inr (6, [.ref tx, .ref lk, .ref pa, .int 0, .ref nO, .ref dO, .int 0, .int 0, .int 0]))] H locs := h
  refine lv_if_eq (tgt := 16) hx hb dX6_stop_4 (by decide) (fun c_1 => ?_) (fun c_1 => absurd (by decide) c_1)
  refine lv_aload_n hx hb dX6_stop_16 rfl (lv_at hl 0 rfl) ?_
  refine lv_bipush (v := (-2)) hx hb dX6_stop_17 (by decide) ?_
  refine k_i X h [0] [] (wr := []) rfl rfl rfl (by decide) 0 0 (Nat.le_of_ble_eq_true rfl) (Nat.le_of_ble_eq_true rfl) (k_runV X h (As := [.int (-2)]) (rest := []) (c6_refuse_bad l g H.size x tx lk pa nO dO) cw_X6_54 [0] rfl rfl 0 kl6 rfl rfl rfl (Nat.le_of_ble_eq_true rfl) (Nat.le_of_ble_eq_true rfl) rfl hl.1 rfl (Nat.le_of_ble_eq_true rfl) dX6_stop_19 (Nat.le_of_ble_eq_true rfl) (Nat.le_of_ble_eq_true rfl)) (fun _ H locs h => ?_)
  have h : ST g A s [] H locs := h
  exact r_iret X h hAe () [] rfl rfl 0 0 (Nat.le_of_ble_eq_true rfl) (Nat.le_of_ble_eq_true rfl) rfl dX6_stop_22

set_option maxHeartbeats 4000000 in
set_option maxRecDepth 100000 in
/-- stop of a fresh object, case wlo -/
theorem c6_stop_wlo (l : Launch) (g : GE) (sz : Nat) (x : Nat) (tx : Nat) (lk : Nat) (pa : Nat) (nO : Nat) (dO : Nat) (c : Int32) (i : Int32) (h1 : ¬ c < 0) (h2 : ¬ 9 < c) (h3 : ¬ 10 ≤ c) (h4 : i < 0) : Met l yX6_stop (.code yX6_stop cX6_stop 4 (some .int) :: WL) { frames := 1, cells := 0, slots := 0, locals := 21 } (PR g [.ref x, .int c, .int i] [(x, .inr (6, [.ref tx, .ref lk, .ref pa, .int 0, .ref nO, .ref dO, .int 0, .int 0, .int 0]))] sz) (QI g [(x, .inr (6, [.ref tx, .ref lk, .ref pa, .int 0, .ref nO, .ref dO, .int 0, .int 0, .int 0]))] sz (-2) (fun _ : Unit => [])) 0 0 (va_A [(x, .inr (6, [.ref tx, .ref lk, .ref pa, .int 0, .ref nO, .ref dO, .int 0, .int 0, .int 0]))] sz) := by
  refine k_start (by decide) (Nat.le_of_ble_eq_true rfl) ?_
  intro pp ee s m bb mm cd A H locs hAe X h ls hl
  have X : CX g pp s m mm cd _ cX6_stop 4 RX6 "stop" (some .int) A := X
  have hx := X.1
  have hb := X.2.1
  have hl : lv_has ls 4 [(0, .ref x), (1, .int c), (2, .int i)] := hl
  refine lv_iload_n hx hb dX6_stop_0 rfl (lv_at hl 1 rfl) ?_
  refine k_i X h [] [0] (wr := [(x, .inr (6, [.ref tx, .ref lk, .ref pa, .int 0, .ref nO, .ref dO, .int 0, .int 0, .int 0]))]) rfl rfl rfl (by decide) 0 0 (Nat.le_of_ble_eq_true rfl) (Nat.le_of_ble_eq_true rfl) (k_runS X h (As := [.int c]) (rest := []) (c6_isStop_t l g H.size c h1 h2 h3) cw_X6_176 [] rfl rfl rfl rfl (Nat.le_of_ble_eq_true rfl) (Nat.le_of_ble_eq_true rfl) rfl hl.1 rfl (Nat.le_of_ble_eq_true rfl) dX6_stop_1 (Nat.le_of_ble_eq_true rfl) (Nat.le_of_ble_eq_true rfl)) (fun _ H locs h => ?_)
  have h : ST g A s [(x, .inr (6, [.ref tx, .ref lk, .ref pa, .int 0, .ref nO, .ref dO, .int 0, .int 0, .int 0]))] H locs := h
  refine lv_if_eq (tgt := 16) hx hb dX6_stop_4 (by decide) (fun c_1 => absurd c_1 (by decide)) (fun c_1 => ?_)
  refine lv_iload_n hx hb dX6_stop_7 rfl (lv_at hl 2 rfl) ?_
  refine lv_if_lt (tgt := 16) hx hb dX6_stop_8 (by decide) (fun c_2 => ?_) (fun c_2 => absurd h4 c_2)
  refine lv_aload_n hx hb dX6_stop_16 rfl (lv_at hl 0 rfl) ?_
  refine lv_bipush (v := (-2)) hx hb dX6_stop_17 (by decide) ?_
  refine k_i X h [0] [] (wr := []) rfl rfl rfl (by decide) 0 0 (Nat.le_of_ble_eq_true rfl) (Nat.le_of_ble_eq_true rfl) (k_runV X h (As := [.int (-2)]) (rest := []) (c6_refuse_bad l g H.size x tx lk pa nO dO) cw_X6_54 [0] rfl rfl 0 kl6 rfl rfl rfl (Nat.le_of_ble_eq_true rfl) (Nat.le_of_ble_eq_true rfl) rfl hl.1 rfl (Nat.le_of_ble_eq_true rfl) dX6_stop_19 (Nat.le_of_ble_eq_true rfl) (Nat.le_of_ble_eq_true rfl)) (fun _ H locs h => ?_)
  have h : ST g A s [] H locs := h
  exact r_iret X h hAe () [] rfl rfl 0 0 (Nat.le_of_ble_eq_true rfl) (Nat.le_of_ble_eq_true rfl) rfl dX6_stop_22

set_option maxHeartbeats 4000000 in
set_option maxRecDepth 100000 in
/-- stop of a fresh object, case whi -/
theorem c6_stop_whi (l : Launch) (g : GE) (sz : Nat) (x : Nat) (tx : Nat) (lk : Nat) (pa : Nat) (nO : Nat) (dO : Nat) (c : Int32) (i : Int32) (h1 : ¬ c < 0) (h2 : ¬ 9 < c) (h3 : ¬ 10 ≤ c) (h4 : ¬ i < 0) (h5 : 4 < i) : Met l yX6_stop (.code yX6_stop cX6_stop 4 (some .int) :: WL) { frames := 1, cells := 0, slots := 0, locals := 21 } (PR g [.ref x, .int c, .int i] [(x, .inr (6, [.ref tx, .ref lk, .ref pa, .int 0, .ref nO, .ref dO, .int 0, .int 0, .int 0]))] sz) (QI g [(x, .inr (6, [.ref tx, .ref lk, .ref pa, .int 0, .ref nO, .ref dO, .int 0, .int 0, .int 0]))] sz (-2) (fun _ : Unit => [])) 0 0 (va_A [(x, .inr (6, [.ref tx, .ref lk, .ref pa, .int 0, .ref nO, .ref dO, .int 0, .int 0, .int 0]))] sz) := by
  refine k_start (by decide) (Nat.le_of_ble_eq_true rfl) ?_
  intro pp ee s m bb mm cd A H locs hAe X h ls hl
  have X : CX g pp s m mm cd _ cX6_stop 4 RX6 "stop" (some .int) A := X
  have hx := X.1
  have hb := X.2.1
  have hl : lv_has ls 4 [(0, .ref x), (1, .int c), (2, .int i)] := hl
  refine lv_iload_n hx hb dX6_stop_0 rfl (lv_at hl 1 rfl) ?_
  refine k_i X h [] [0] (wr := [(x, .inr (6, [.ref tx, .ref lk, .ref pa, .int 0, .ref nO, .ref dO, .int 0, .int 0, .int 0]))]) rfl rfl rfl (by decide) 0 0 (Nat.le_of_ble_eq_true rfl) (Nat.le_of_ble_eq_true rfl) (k_runS X h (As := [.int c]) (rest := []) (c6_isStop_t l g H.size c h1 h2 h3) cw_X6_176 [] rfl rfl rfl rfl (Nat.le_of_ble_eq_true rfl) (Nat.le_of_ble_eq_true rfl) rfl hl.1 rfl (Nat.le_of_ble_eq_true rfl) dX6_stop_1 (Nat.le_of_ble_eq_true rfl) (Nat.le_of_ble_eq_true rfl)) (fun _ H locs h => ?_)
  have h : ST g A s [(x, .inr (6, [.ref tx, .ref lk, .ref pa, .int 0, .ref nO, .ref dO, .int 0, .int 0, .int 0]))] H locs := h
  refine lv_if_eq (tgt := 16) hx hb dX6_stop_4 (by decide) (fun c_1 => absurd c_1 (by decide)) (fun c_1 => ?_)
  refine lv_iload_n hx hb dX6_stop_7 rfl (lv_at hl 2 rfl) ?_
  refine lv_if_lt (tgt := 16) hx hb dX6_stop_8 (by decide) (fun c_2 => absurd c_2 h4) (fun c_2 => ?_)
  refine lv_iload_n hx hb dX6_stop_11 rfl (lv_at hl 2 rfl) ?_
  refine lv_iconst (v := 4) hx hb dX6_stop_12 (by decide) ?_
  refine lv_icmp_le (tgt := 23) hx hb dX6_stop_13 (by decide) (fun c_3 => absurd c_3 (Int32.not_le.mpr h5)) (fun c_3 => ?_)
  refine lv_aload_n hx hb dX6_stop_16 rfl (lv_at hl 0 rfl) ?_
  refine lv_bipush (v := (-2)) hx hb dX6_stop_17 (by decide) ?_
  refine k_i X h [0] [] (wr := []) rfl rfl rfl (by decide) 0 0 (Nat.le_of_ble_eq_true rfl) (Nat.le_of_ble_eq_true rfl) (k_runV X h (As := [.int (-2)]) (rest := []) (c6_refuse_bad l g H.size x tx lk pa nO dO) cw_X6_54 [0] rfl rfl 0 kl6 rfl rfl rfl (Nat.le_of_ble_eq_true rfl) (Nat.le_of_ble_eq_true rfl) rfl hl.1 rfl (Nat.le_of_ble_eq_true rfl) dX6_stop_19 (Nat.le_of_ble_eq_true rfl) (Nat.le_of_ble_eq_true rfl)) (fun _ H locs h => ?_)
  have h : ST g A s [] H locs := h
  exact r_iret X h hAe () [] rfl rfl 0 0 (Nat.le_of_ble_eq_true rfl) (Nat.le_of_ble_eq_true rfl) rfl dX6_stop_22

set_option maxHeartbeats 4000000 in
set_option maxRecDepth 100000 in
/-- stop of a fresh object, case ok -/
theorem c6_stop_ok (l : Launch) (g : GE) (sz : Nat) (x : Nat) (tx : Nat) (lk : Nat) (pa : Nat) (nO : Nat) (dO : Nat) (np : Nat) (nv : Nat) (ns : Nat) (nsh : Nat) (c : Int32) (i : Int32) (h1 : ¬ c < 0) (h2 : ¬ 9 < c) (h3 : ¬ 10 ≤ c) (h4 : ¬ i < 0) (h5 : ¬ 4 < i) : Met l yX6_stop (.code yX6_stop cX6_stop 4 (some .int) :: WL) { frames := 1, cells := 0, slots := 0, locals := 21 } (PR g [.ref x, .int c, .int i] [(x, .inr (6, [.ref tx, .ref lk, .ref pa, .int 0, .ref nO, .ref dO, .int 0, .int 0, .int 0])), (nO, .inr (4, [.ref np, .int 0, .ref nv, .ref ns, .int 0, .ref nsh]))] sz) (QI g [(x, .inr (6, [.ref tx, .ref lk, .ref pa, .int 0, .ref nO, .ref dO, .int 0, .int 0, .int 0])), (nO, .inr (4, [.ref np, .int 0, .ref nv, .ref ns, .int 0, .ref nsh]))] sz (-3) (fun _ : Unit => [])) 0 0 (va_A [(x, .inr (6, [.ref tx, .ref lk, .ref pa, .int 0, .ref nO, .ref dO, .int 0, .int 0, .int 0])), (nO, .inr (4, [.ref np, .int 0, .ref nv, .ref ns, .int 0, .ref nsh]))] sz) := by
  refine k_start (by decide) (Nat.le_of_ble_eq_true rfl) ?_
  intro pp ee s m bb mm cd A H locs hAe X h ls hl
  have X : CX g pp s m mm cd _ cX6_stop 4 RX6 "stop" (some .int) A := X
  have hx := X.1
  have hb := X.2.1
  have hl : lv_has ls 4 [(0, .ref x), (1, .int c), (2, .int i)] := hl
  refine lv_iload_n hx hb dX6_stop_0 rfl (lv_at hl 1 rfl) ?_
  refine k_i X h [] [0, 1] (wr := [(x, .inr (6, [.ref tx, .ref lk, .ref pa, .int 0, .ref nO, .ref dO, .int 0, .int 0, .int 0])), (nO, .inr (4, [.ref np, .int 0, .ref nv, .ref ns, .int 0, .ref nsh]))]) rfl rfl rfl (by decide) 0 0 (Nat.le_of_ble_eq_true rfl) (Nat.le_of_ble_eq_true rfl) (k_runS X h (As := [.int c]) (rest := []) (c6_isStop_t l g H.size c h1 h2 h3) cw_X6_176 [] rfl rfl rfl rfl (Nat.le_of_ble_eq_true rfl) (Nat.le_of_ble_eq_true rfl) rfl hl.1 rfl (Nat.le_of_ble_eq_true rfl) dX6_stop_1 (Nat.le_of_ble_eq_true rfl) (Nat.le_of_ble_eq_true rfl)) (fun _ H locs h => ?_)
  have h : ST g A s [(x, .inr (6, [.ref tx, .ref lk, .ref pa, .int 0, .ref nO, .ref dO, .int 0, .int 0, .int 0])), (nO, .inr (4, [.ref np, .int 0, .ref nv, .ref ns, .int 0, .ref nsh]))] H locs := h
  refine lv_if_eq (tgt := 16) hx hb dX6_stop_4 (by decide) (fun c_1 => absurd c_1 (by decide)) (fun c_1 => ?_)
  refine lv_iload_n hx hb dX6_stop_7 rfl (lv_at hl 2 rfl) ?_
  refine lv_if_lt (tgt := 16) hx hb dX6_stop_8 (by decide) (fun c_2 => absurd c_2 h4) (fun c_2 => ?_)
  refine lv_iload_n hx hb dX6_stop_11 rfl (lv_at hl 2 rfl) ?_
  refine lv_iconst (v := 4) hx hb dX6_stop_12 (by decide) ?_
  refine lv_icmp_le (tgt := 23) hx hb dX6_stop_13 (by decide) (fun c_3 => ?_) (fun c_3 => absurd (Int32.not_lt.mp h5) c_3)
  refine lv_aload_n hx hb dX6_stop_23 rfl (lv_at hl 0 rfl) ?_
  refine r_get X h kl6 0 4 rfl (by decide) lk_X6_47 rfl dX6_stop_24 ?_
  refine k_q X h [1] [0] (wr := [(x, .inr (6, [.ref tx, .ref lk, .ref pa, .int 0, .ref nO, .ref dO, .int 0, .int 0, .int 0]))]) rfl rfl rfl (by decide) 0 0 (Nat.le_of_ble_eq_true rfl) (Nat.le_of_ble_eq_true rfl) (k_runV X h (As := []) (rest := []) (c4_upp0 l g H.size nO np nv ns nsh 0) cw_X6_119 [1] rfl rfl 1 kl4 rfl rfl rfl (Nat.le_of_ble_eq_true rfl) (Nat.le_of_ble_eq_true rfl) rfl hl.1 rfl (Nat.le_of_ble_eq_true rfl) dX6_stop_27 (Nat.le_of_ble_eq_true rfl) (Nat.le_of_ble_eq_true rfl)) (fun _ H locs h => ?_)
  have h : ST g A s [(x, .inr (6, [.ref tx, .ref lk, .ref pa, .int 0, .ref nO, .ref dO, .int 0, .int 0, .int 0])), (nO, .inr (4, [.ref np, .int 0, .ref nv, .ref ns, .int 0, .ref nsh]))] H locs := h
  refine W.eq (g2 := F0 m 30 ls [.null]) rfl ?_
  refine lv_astore_nN (lv' := [(3, .null), (0, .ref x), (1, .int c), (2, .int i)]) hx hb dX6_stop_30 rfl hl (by decide) rfl (fun ls hl => ?_)
  refine lv_aload_nN hx hb dX6_stop_31 rfl (lv_at hl 0 rfl) ?_
  refine lv_ifnonnullN hx hb dX6_stop_32 ?_
  refine lv_aload_n hx hb dX6_stop_35 rfl (lv_at hl 1 rfl) ?_
  refine lv_bipush (v := (-3)) hx hb dX6_stop_36 (by decide) ?_
  refine k_i X h [0] [1] (wr := [(nO, .inr (4, [.ref np, .int 0, .ref nv, .ref ns, .int 0, .ref nsh]))]) rfl rfl rfl (by decide) 0 0 (Nat.le_of_ble_eq_true rfl) (Nat.le_of_ble_eq_true rfl) (k_runV X h (As := [.int (-3)]) (rest := []) (c6_refuse_no l g H.size x tx lk pa nO dO) cw_X6_54 [0] rfl rfl 0 kl6 rfl rfl rfl (Nat.le_of_ble_eq_true rfl) (Nat.le_of_ble_eq_true rfl) rfl hl.1 rfl (Nat.le_of_ble_eq_true rfl) dX6_stop_38 (Nat.le_of_ble_eq_true rfl) (Nat.le_of_ble_eq_true rfl)) (fun _ H locs h => ?_)
  have h : ST g A s [(nO, .inr (4, [.ref np, .int 0, .ref nv, .ref ns, .int 0, .ref nsh]))] H locs := h
  exact r_iret X h hAe () [] rfl rfl 0 0 (Nat.le_of_ble_eq_true rfl) (Nat.le_of_ble_eq_true rfl) rfl dX6_stop_41

set_option maxHeartbeats 4000000 in
set_option maxRecDepth 100000 in
/-- held of a fresh object, case lo -/
theorem c6_held_lo (l : Launch) (g : GE) (sz : Nat) (x : Nat) (tx : Nat) (lk : Nat) (pa : Nat) (nO : Nat) (dO : Nat) (c : Int32) (i : Int32) (h1 : c < 0) : Met l yX6_held (.code yX6_held cX6_held 4 (some .int) :: WL) { frames := 1, cells := 0, slots := 0, locals := 21 } (PR g [.ref x, .int c, .int i] [(x, .inr (6, [.ref tx, .ref lk, .ref pa, .int 0, .ref nO, .ref dO, .int 0, .int 0, .int 0]))] sz) (QI g [(x, .inr (6, [.ref tx, .ref lk, .ref pa, .int 0, .ref nO, .ref dO, .int 0, .int 0, .int 0]))] sz (-2) (fun _ : Unit => [])) 0 0 (va_A [(x, .inr (6, [.ref tx, .ref lk, .ref pa, .int 0, .ref nO, .ref dO, .int 0, .int 0, .int 0]))] sz) := by
  refine k_start (by decide) (Nat.le_of_ble_eq_true rfl) ?_
  intro pp ee s m bb mm cd A H locs hAe X h ls hl
  have X : CX g pp s m mm cd _ cX6_held 4 RX6 "held" (some .int) A := X
  have hx := X.1
  have hb := X.2.1
  have hl : lv_has ls 4 [(0, .ref x), (1, .int c), (2, .int i)] := hl
  refine lv_iload_n hx hb dX6_held_0 rfl (lv_at hl 1 rfl) ?_
  refine k_i X h [] [0] (wr := [(x, .inr (6, [.ref tx, .ref lk, .ref pa, .int 0, .ref nO, .ref dO, .int 0, .int 0, .int 0]))]) rfl rfl rfl (by decide) 0 0 (Nat.le_of_ble_eq_true rfl) (Nat.le_of_ble_eq_true rfl) (k_runS X h (As := [.int c]) (rest := []) (c6_isStop_lo l g H.size c h1) cw_X6_176 [] rfl rfl rfl rfl (Nat.le_of_ble_eq_true rfl) (Nat.le_of_ble_eq_true rfl) rfl hl.1 rfl (Nat.le_of_ble_eq_true rfl) dX6_held_1 (Nat.le_of_ble_eq_true rfl) (Nat.le_of_ble_eq_true rfl)) (fun _ H locs h => ?_)
  have h : ST g A s [(x, .inr (6, [.ref tx, .ref lk, .ref pa, .int 0, .ref nO, .ref dO, .int 0, .int 0, .int 0]))] H locs := h
  refine lv_if_eq (tgt := 11) hx hb dX6_held_4 (by decide) (fun c_1 => ?_) (fun c_1 => absurd (by decide) c_1)
  refine lv_aload_n hx hb dX6_held_11 rfl (lv_at hl 0 rfl) ?_
  refine lv_bipush (v := (-2)) hx hb dX6_held_12 (by decide) ?_
  refine k_i X h [0] [] (wr := []) rfl rfl rfl (by decide) 0 0 (Nat.le_of_ble_eq_true rfl) (Nat.le_of_ble_eq_true rfl) (k_runV X h (As := [.int (-2)]) (rest := []) (c6_refuse_bad l g H.size x tx lk pa nO dO) cw_X6_54 [0] rfl rfl 0 kl6 rfl rfl rfl (Nat.le_of_ble_eq_true rfl) (Nat.le_of_ble_eq_true rfl) rfl hl.1 rfl (Nat.le_of_ble_eq_true rfl) dX6_held_14 (Nat.le_of_ble_eq_true rfl) (Nat.le_of_ble_eq_true rfl)) (fun _ H locs h => ?_)
  have h : ST g A s [] H locs := h
  exact r_iret X h hAe () [] rfl rfl 0 0 (Nat.le_of_ble_eq_true rfl) (Nat.le_of_ble_eq_true rfl) rfl dX6_held_17

set_option maxHeartbeats 4000000 in
set_option maxRecDepth 100000 in
/-- held of a fresh object, case hi -/
theorem c6_held_hi (l : Launch) (g : GE) (sz : Nat) (x : Nat) (tx : Nat) (lk : Nat) (pa : Nat) (nO : Nat) (dO : Nat) (c : Int32) (i : Int32) (h1 : ¬ c < 0) (h2 : 9 < c) (h3 : 10 ≤ c) : Met l yX6_held (.code yX6_held cX6_held 4 (some .int) :: WL) { frames := 1, cells := 0, slots := 0, locals := 21 } (PR g [.ref x, .int c, .int i] [(x, .inr (6, [.ref tx, .ref lk, .ref pa, .int 0, .ref nO, .ref dO, .int 0, .int 0, .int 0]))] sz) (QI g [(x, .inr (6, [.ref tx, .ref lk, .ref pa, .int 0, .ref nO, .ref dO, .int 0, .int 0, .int 0]))] sz (-2) (fun _ : Unit => [])) 0 0 (va_A [(x, .inr (6, [.ref tx, .ref lk, .ref pa, .int 0, .ref nO, .ref dO, .int 0, .int 0, .int 0]))] sz) := by
  refine k_start (by decide) (Nat.le_of_ble_eq_true rfl) ?_
  intro pp ee s m bb mm cd A H locs hAe X h ls hl
  have X : CX g pp s m mm cd _ cX6_held 4 RX6 "held" (some .int) A := X
  have hx := X.1
  have hb := X.2.1
  have hl : lv_has ls 4 [(0, .ref x), (1, .int c), (2, .int i)] := hl
  refine lv_iload_n hx hb dX6_held_0 rfl (lv_at hl 1 rfl) ?_
  refine k_i X h [] [0] (wr := [(x, .inr (6, [.ref tx, .ref lk, .ref pa, .int 0, .ref nO, .ref dO, .int 0, .int 0, .int 0]))]) rfl rfl rfl (by decide) 0 0 (Nat.le_of_ble_eq_true rfl) (Nat.le_of_ble_eq_true rfl) (k_runS X h (As := [.int c]) (rest := []) (c6_isStop_hi l g H.size c h1 h2 h3) cw_X6_176 [] rfl rfl rfl rfl (Nat.le_of_ble_eq_true rfl) (Nat.le_of_ble_eq_true rfl) rfl hl.1 rfl (Nat.le_of_ble_eq_true rfl) dX6_held_1 (Nat.le_of_ble_eq_true rfl) (Nat.le_of_ble_eq_true rfl)) (fun _ H locs h => ?_)
  have h : ST g A s [(x, .inr (6, [.ref tx, .ref lk, .ref pa, .int 0, .ref nO, .ref dO, .int 0, .int 0, .int 0]))] H locs := h
  refine lv_if_eq (tgt := 11) hx hb dX6_held_4 (by decide) (fun c_1 => ?_) (fun c_1 => absurd (by decide) c_1)
  refine lv_aload_n hx hb dX6_held_11 rfl (lv_at hl 0 rfl) ?_
  refine lv_bipush (v := (-2)) hx hb dX6_held_12 (by decide) ?_
  refine k_i X h [0] [] (wr := []) rfl rfl rfl (by decide) 0 0 (Nat.le_of_ble_eq_true rfl) (Nat.le_of_ble_eq_true rfl) (k_runV X h (As := [.int (-2)]) (rest := []) (c6_refuse_bad l g H.size x tx lk pa nO dO) cw_X6_54 [0] rfl rfl 0 kl6 rfl rfl rfl (Nat.le_of_ble_eq_true rfl) (Nat.le_of_ble_eq_true rfl) rfl hl.1 rfl (Nat.le_of_ble_eq_true rfl) dX6_held_14 (Nat.le_of_ble_eq_true rfl) (Nat.le_of_ble_eq_true rfl)) (fun _ H locs h => ?_)
  have h : ST g A s [] H locs := h
  exact r_iret X h hAe () [] rfl rfl 0 0 (Nat.le_of_ble_eq_true rfl) (Nat.le_of_ble_eq_true rfl) rfl dX6_held_17

set_option maxHeartbeats 4000000 in
set_option maxRecDepth 100000 in
/-- held of a fresh object, case ilo -/
theorem c6_held_ilo (l : Launch) (g : GE) (sz : Nat) (x : Nat) (tx : Nat) (lk : Nat) (pa : Nat) (nO : Nat) (dO : Nat) (c : Int32) (i : Int32) (h1 : ¬ c < 0) (h2 : ¬ 9 < c) (h3 : ¬ 10 ≤ c) (h4 : i < 0) : Met l yX6_held (.code yX6_held cX6_held 4 (some .int) :: WL) { frames := 1, cells := 0, slots := 0, locals := 21 } (PR g [.ref x, .int c, .int i] [(x, .inr (6, [.ref tx, .ref lk, .ref pa, .int 0, .ref nO, .ref dO, .int 0, .int 0, .int 0]))] sz) (QI g [(x, .inr (6, [.ref tx, .ref lk, .ref pa, .int 0, .ref nO, .ref dO, .int 0, .int 0, .int 0]))] sz (-2) (fun _ : Unit => [])) 0 0 (va_A [(x, .inr (6, [.ref tx, .ref lk, .ref pa, .int 0, .ref nO, .ref dO, .int 0, .int 0, .int 0]))] sz) := by
  refine k_start (by decide) (Nat.le_of_ble_eq_true rfl) ?_
  intro pp ee s m bb mm cd A H locs hAe X h ls hl
  have X : CX g pp s m mm cd _ cX6_held 4 RX6 "held" (some .int) A := X
  have hx := X.1
  have hb := X.2.1
  have hl : lv_has ls 4 [(0, .ref x), (1, .int c), (2, .int i)] := hl
  refine lv_iload_n hx hb dX6_held_0 rfl (lv_at hl 1 rfl) ?_
  refine k_i X h [] [0] (wr := [(x, .inr (6, [.ref tx, .ref lk, .ref pa, .int 0, .ref nO, .ref dO, .int 0, .int 0, .int 0]))]) rfl rfl rfl (by decide) 0 0 (Nat.le_of_ble_eq_true rfl) (Nat.le_of_ble_eq_true rfl) (k_runS X h (As := [.int c]) (rest := []) (c6_isStop_t l g H.size c h1 h2 h3) cw_X6_176 [] rfl rfl rfl rfl (Nat.le_of_ble_eq_true rfl) (Nat.le_of_ble_eq_true rfl) rfl hl.1 rfl (Nat.le_of_ble_eq_true rfl) dX6_held_1 (Nat.le_of_ble_eq_true rfl) (Nat.le_of_ble_eq_true rfl)) (fun _ H locs h => ?_)
  have h : ST g A s [(x, .inr (6, [.ref tx, .ref lk, .ref pa, .int 0, .ref nO, .ref dO, .int 0, .int 0, .int 0]))] H locs := h
  refine lv_if_eq (tgt := 11) hx hb dX6_held_4 (by decide) (fun c_1 => absurd c_1 (by decide)) (fun c_1 => ?_)
  refine lv_iload_n hx hb dX6_held_7 rfl (lv_at hl 2 rfl) ?_
  refine lv_if_ge (tgt := 18) hx hb dX6_held_8 (by decide) (fun c_2 => absurd c_2 (Int32.not_le.mpr h4)) (fun c_2 => ?_)
  refine lv_aload_n hx hb dX6_held_11 rfl (lv_at hl 0 rfl) ?_
  refine lv_bipush (v := (-2)) hx hb dX6_held_12 (by decide) ?_
  refine k_i X h [0] [] (wr := []) rfl rfl rfl (by decide) 0 0 (Nat.le_of_ble_eq_true rfl) (Nat.le_of_ble_eq_true rfl) (k_runV X h (As := [.int (-2)]) (rest := []) (c6_refuse_bad l g H.size x tx lk pa nO dO) cw_X6_54 [0] rfl rfl 0 kl6 rfl rfl rfl (Nat.le_of_ble_eq_true rfl) (Nat.le_of_ble_eq_true rfl) rfl hl.1 rfl (Nat.le_of_ble_eq_true rfl) dX6_held_14 (Nat.le_of_ble_eq_true rfl) (Nat.le_of_ble_eq_true rfl)) (fun _ H locs h => ?_)
  have h : ST g A s [] H locs := h
  exact r_iret X h hAe () [] rfl rfl 0 0 (Nat.le_of_ble_eq_true rfl) (Nat.le_of_ble_eq_true rfl) rfl dX6_held_17

set_option maxHeartbeats 4000000 in
set_option maxRecDepth 100000 in
/-- held of a fresh object, case ok -/
theorem c6_held_ok (l : Launch) (g : GE) (sz : Nat) (x : Nat) (tx : Nat) (lk : Nat) (pa : Nat) (nO : Nat) (dO : Nat) (np : Nat) (nv : Nat) (ns : Nat) (nsh : Nat) (c : Int32) (i : Int32) (h1 : ¬ c < 0) (h2 : ¬ 9 < c) (h3 : ¬ 10 ≤ c) (h4 : ¬ i < 0) : Met l yX6_held (.code yX6_held cX6_held 4 (some .int) :: WL) { frames := 1, cells := 0, slots := 0, locals := 21 } (PR g [.ref x, .int c, .int i] [(x, .inr (6, [.ref tx, .ref lk, .ref pa, .int 0, .ref nO, .ref dO, .int 0, .int 0, .int 0])), (nO, .inr (4, [.ref np, .int 0, .ref nv, .ref ns, .int 0, .ref nsh]))] sz) (QI g [(x, .inr (6, [.ref tx, .ref lk, .ref pa, .int 0, .ref nO, .ref dO, .int 0, .int 0, .int 0])), (nO, .inr (4, [.ref np, .int 0, .ref nv, .ref ns, .int 0, .ref nsh]))] sz (-3) (fun _ : Unit => [])) 0 0 (va_A [(x, .inr (6, [.ref tx, .ref lk, .ref pa, .int 0, .ref nO, .ref dO, .int 0, .int 0, .int 0])), (nO, .inr (4, [.ref np, .int 0, .ref nv, .ref ns, .int 0, .ref nsh]))] sz) := by
  refine k_start (by decide) (Nat.le_of_ble_eq_true rfl) ?_
  intro pp ee s m bb mm cd A H locs hAe X h ls hl
  have X : CX g pp s m mm cd _ cX6_held 4 RX6 "held" (some .int) A := X
  have hx := X.1
  have hb := X.2.1
  have hl : lv_has ls 4 [(0, .ref x), (1, .int c), (2, .int i)] := hl
  refine lv_iload_n hx hb dX6_held_0 rfl (lv_at hl 1 rfl) ?_
  refine k_i X h [] [0, 1] (wr := [(x, .inr (6, [.ref tx, .ref lk, .ref pa, .int 0, .ref nO, .ref dO, .int 0, .int 0, .int 0])), (nO, .inr (4, [.ref np, .int 0, .ref nv, .ref ns, .int 0, .ref nsh]))]) rfl rfl rfl (by decide) 0 0 (Nat.le_of_ble_eq_true rfl) (Nat.le_of_ble_eq_true rfl) (k_runS X h (As := [.int c]) (rest := []) (c6_isStop_t l g H.size c h1 h2 h3) cw_X6_176 [] rfl rfl rfl rfl (Nat.le_of_ble_eq_true rfl) (Nat.le_of_ble_eq_true rfl) rfl hl.1 rfl (Nat.le_of_ble_eq_true rfl) dX6_held_1 (Nat.le_of_ble_eq_true rfl) (Nat.le_of_ble_eq_true rfl)) (fun _ H locs h => ?_)
  have h : ST g A s [(x, .inr (6, [.ref tx, .ref lk, .ref pa, .int 0, .ref nO, .ref dO, .int 0, .int 0, .int 0])), (nO, .inr (4, [.ref np, .int 0, .ref nv, .ref ns, .int 0, .ref nsh]))] H locs := h
  refine lv_if_eq (tgt := 11) hx hb dX6_held_4 (by decide) (fun c_1 => absurd c_1 (by decide)) (fun c_1 => ?_)
  refine lv_iload_n hx hb dX6_held_7 rfl (lv_at hl 2 rfl) ?_
  refine lv_if_ge (tgt := 18) hx hb dX6_held_8 (by decide) (fun c_2 => ?_) (fun c_2 => absurd (Int32.not_lt.mp h4) c_2)
  refine lv_aload_n hx hb dX6_held_18 rfl (lv_at hl 0 rfl) ?_
  refine r_get X h kl6 0 4 rfl (by decide) lk_X6_47 rfl dX6_held_19 ?_
  refine k_q X h [1] [0] (wr := [(x, .inr (6, [.ref tx, .ref lk, .ref pa, .int 0, .ref nO, .ref dO, .int 0, .int 0, .int 0]))]) rfl rfl rfl (by decide) 0 0 (Nat.le_of_ble_eq_true rfl) (Nat.le_of_ble_eq_true rfl) (k_runV X h (As := []) (rest := []) (c4_upp0 l g H.size nO np nv ns nsh 0) cw_X6_119 [1] rfl rfl 1 kl4 rfl rfl rfl (Nat.le_of_ble_eq_true rfl) (Nat.le_of_ble_eq_true rfl) rfl hl.1 rfl (Nat.le_of_ble_eq_true rfl) dX6_held_22 (Nat.le_of_ble_eq_true rfl) (Nat.le_of_ble_eq_true rfl)) (fun _ H locs h => ?_)
  have h : ST g A s [(x, .inr (6, [.ref tx, .ref lk, .ref pa, .int 0, .ref nO, .ref dO, .int 0, .int 0, .int 0])), (nO, .inr (4, [.ref np, .int 0, .ref nv, .ref ns, .int 0, .ref nsh]))] H locs := h
  refine W.eq (g2 := F0 m 25 ls [.null]) rfl ?_
  refine lv_astore_nN (lv' := [(3, .null), (0, .ref x), (1, .int c), (2, .int i)]) hx hb dX6_held_25 rfl hl (by decide) rfl (fun ls hl => ?_)
  refine lv_aload_nN hx hb dX6_held_26 rfl (lv_at hl 0 rfl) ?_
  refine lv_ifnonnullN hx hb dX6_held_27 ?_
  refine lv_aload_n hx hb dX6_held_30 rfl (lv_at hl 1 rfl) ?_
  refine lv_bipush (v := (-3)) hx hb dX6_held_31 (by decide) ?_
  refine k_i X h [0] [1] (wr := [(nO, .inr (4, [.ref np, .int 0, .ref nv, .ref ns, .int 0, .ref nsh]))]) rfl rfl rfl (by decide) 0 0 (Nat.le_of_ble_eq_true rfl) (Nat.le_of_ble_eq_true rfl) (k_runV X h (As := [.int (-3)]) (rest := []) (c6_refuse_no l g H.size x tx lk pa nO dO) cw_X6_54 [0] rfl rfl 0 kl6 rfl rfl rfl (Nat.le_of_ble_eq_true rfl) (Nat.le_of_ble_eq_true rfl) rfl hl.1 rfl (Nat.le_of_ble_eq_true rfl) dX6_held_33 (Nat.le_of_ble_eq_true rfl) (Nat.le_of_ble_eq_true rfl)) (fun _ H locs h => ?_)
  have h : ST g A s [(nO, .inr (4, [.ref np, .int 0, .ref nv, .ref ns, .int 0, .ref nsh]))] H locs := h
  refine lv_goto (tgt := 49) hx hb dX6_held_36 (by decide) ?_
  exact r_iret X h hAe () [] rfl rfl 0 0 (Nat.le_of_ble_eq_true rfl) (Nat.le_of_ble_eq_true rfl) rfl dX6_held_49

set_option maxHeartbeats 4000000 in
set_option maxRecDepth 100000 in
/-- choice of a fresh object, case lo -/
theorem c6_choice_lo (l : Launch) (g : GE) (sz : Nat) (x : Nat) (tx : Nat) (lk : Nat) (pa : Nat) (nO : Nat) (dO : Nat) (c : Int32) (i : Int32) (j : Int32) (h1 : c < 0) : Met l yX6_choice (.code yX6_choice cX6_choice 5 (some .int) :: WL) { frames := 1, cells := 0, slots := 0, locals := 21 } (PR g [.ref x, .int c, .int i, .int j] [(x, .inr (6, [.ref tx, .ref lk, .ref pa, .int 0, .ref nO, .ref dO, .int 0, .int 0, .int 0]))] sz) (QI g [(x, .inr (6, [.ref tx, .ref lk, .ref pa, .int 0, .ref nO, .ref dO, .int 0, .int 0, .int 0]))] sz (-2) (fun _ : Unit => [])) 0 0 (va_A [(x, .inr (6, [.ref tx, .ref lk, .ref pa, .int 0, .ref nO, .ref dO, .int 0, .int 0, .int 0]))] sz) := by
  refine k_start (by decide) (Nat.le_of_ble_eq_true rfl) ?_
  intro pp ee s m bb mm cd A H locs hAe X h ls hl
  have X : CX g pp s m mm cd _ cX6_choice 5 RX6 "choice" (some .int) A := X
  have hx := X.1
  have hb := X.2.1
  have hl : lv_has ls 5 [(0, .ref x), (1, .int c), (2, .int i), (3, .int j)] := hl
  refine lv_iload_n hx hb dX6_choice_0 rfl (lv_at hl 1 rfl) ?_
  refine k_i X h [] [0] (wr := [(x, .inr (6, [.ref tx, .ref lk, .ref pa, .int 0, .ref nO, .ref dO, .int 0, .int 0, .int 0]))]) rfl rfl rfl (by decide) 0 0 (Nat.le_of_ble_eq_true rfl) (Nat.le_of_ble_eq_true rfl) (k_runS X h (As := [.int c]) (rest := []) (c6_isStop_lo l g H.size c h1) cw_X6_176 [] rfl rfl rfl rfl (Nat.le_of_ble_eq_true rfl) (Nat.le_of_ble_eq_true rfl) rfl hl.1 rfl (Nat.le_of_ble_eq_true rfl) dX6_choice_1 (Nat.le_of_ble_eq_true rfl) (Nat.le_of_ble_eq_true rfl)) (fun _ H locs h => ?_)
  have h : ST g A s [(x, .inr (6, [.ref tx, .ref lk, .ref pa, .int 0, .ref nO, .ref dO, .int 0, .int 0, .int 0]))] H locs := h
  refine lv_if_eq (tgt := 15) hx hb dX6_choice_4 (by decide) (fun c_1 => ?_) (fun c_1 => absurd (by decide) c_1)
  refine lv_aload_n hx hb dX6_choice_15 rfl (lv_at hl 0 rfl) ?_
  refine lv_bipush (v := (-2)) hx hb dX6_choice_16 (by decide) ?_
  refine k_i X h [0] [] (wr := []) rfl rfl rfl (by decide) 0 0 (Nat.le_of_ble_eq_true rfl) (Nat.le_of_ble_eq_true rfl) (k_runV X h (As := [.int (-2)]) (rest := []) (c6_refuse_bad l g H.size x tx lk pa nO dO) cw_X6_54 [0] rfl rfl 0 kl6 rfl rfl rfl (Nat.le_of_ble_eq_true rfl) (Nat.le_of_ble_eq_true rfl) rfl hl.1 rfl (Nat.le_of_ble_eq_true rfl) dX6_choice_18 (Nat.le_of_ble_eq_true rfl) (Nat.le_of_ble_eq_true rfl)) (fun _ H locs h => ?_)
  have h : ST g A s [] H locs := h
  exact r_iret X h hAe () [] rfl rfl 0 0 (Nat.le_of_ble_eq_true rfl) (Nat.le_of_ble_eq_true rfl) rfl dX6_choice_21

set_option maxHeartbeats 4000000 in
set_option maxRecDepth 100000 in
/-- choice of a fresh object, case hi -/
theorem c6_choice_hi (l : Launch) (g : GE) (sz : Nat) (x : Nat) (tx : Nat) (lk : Nat) (pa : Nat) (nO : Nat) (dO : Nat) (c : Int32) (i : Int32) (j : Int32) (h1 : ¬ c < 0) (h2 : 9 < c) (h3 : 10 ≤ c) : Met l yX6_choice (.code yX6_choice cX6_choice 5 (some .int) :: WL) { frames := 1, cells := 0, slots := 0, locals := 21 } (PR g [.ref x, .int c, .int i, .int j] [(x, .inr (6, [.ref tx, .ref lk, .ref pa, .int 0, .ref nO, .ref dO, .int 0, .int 0, .int 0]))] sz) (QI g [(x, .inr (6, [.ref tx, .ref lk, .ref pa, .int 0, .ref nO, .ref dO, .int 0, .int 0, .int 0]))] sz (-2) (fun _ : Unit => [])) 0 0 (va_A [(x, .inr (6, [.ref tx, .ref lk, .ref pa, .int 0, .ref nO, .ref dO, .int 0, .int 0, .int 0]))] sz) := by
  refine k_start (by decide) (Nat.le_of_ble_eq_true rfl) ?_
  intro pp ee s m bb mm cd A H locs hAe X h ls hl
  have X : CX g pp s m mm cd _ cX6_choice 5 RX6 "choice" (some .int) A := X
  have hx := X.1
  have hb := X.2.1
  have hl : lv_has ls 5 [(0, .ref x), (1, .int c), (2, .int i), (3, .int j)] := hl
  refine lv_iload_n hx hb dX6_choice_0 rfl (lv_at hl 1 rfl) ?_
  refine k_i X h [] [0] (wr := [(x, .inr (6, [.ref tx, .ref lk, .ref pa, .int 0, .ref nO, .ref dO, .int 0, .int 0, .int 0]))]) rfl rfl rfl (by decide) 0 0 (Nat.le_of_ble_eq_true rfl) (Nat.le_of_ble_eq_true rfl) (k_runS X h (As := [.int c]) (rest := []) (c6_isStop_hi l g H.size c h1 h2 h3) cw_X6_176 [] rfl rfl rfl rfl (Nat.le_of_ble_eq_true rfl) (Nat.le_of_ble_eq_true rfl) rfl hl.1 rfl (Nat.le_of_ble_eq_true rfl) dX6_choice_1 (Nat.le_of_ble_eq_true rfl) (Nat.le_of_ble_eq_true rfl)) (fun _ H locs h => ?_)
  have h : ST g A s [(x, .inr (6, [.ref tx, .ref lk, .ref pa, .int 0, .ref nO, .ref dO, .int 0, .int 0, .int 0]))] H locs := h
  refine lv_if_eq (tgt := 15) hx hb dX6_choice_4 (by decide) (fun c_1 => ?_) (fun c_1 => absurd (by decide) c_1)
  refine lv_aload_n hx hb dX6_choice_15 rfl (lv_at hl 0 rfl) ?_
  refine lv_bipush (v := (-2)) hx hb dX6_choice_16 (by decide) ?_
  refine k_i X h [0] [] (wr := []) rfl rfl rfl (by decide) 0 0 (Nat.le_of_ble_eq_true rfl) (Nat.le_of_ble_eq_true rfl) (k_runV X h (As := [.int (-2)]) (rest := []) (c6_refuse_bad l g H.size x tx lk pa nO dO) cw_X6_54 [0] rfl rfl 0 kl6 rfl rfl rfl (Nat.le_of_ble_eq_true rfl) (Nat.le_of_ble_eq_true rfl) rfl hl.1 rfl (Nat.le_of_ble_eq_true rfl) dX6_choice_18 (Nat.le_of_ble_eq_true rfl) (Nat.le_of_ble_eq_true rfl)) (fun _ H locs h => ?_)
  have h : ST g A s [] H locs := h
  exact r_iret X h hAe () [] rfl rfl 0 0 (Nat.le_of_ble_eq_true rfl) (Nat.le_of_ble_eq_true rfl) rfl dX6_choice_21

set_option maxHeartbeats 4000000 in
set_option maxRecDepth 100000 in
/-- choice of a fresh object, case klo -/
theorem c6_choice_klo (l : Launch) (g : GE) (sz : Nat) (x : Nat) (tx : Nat) (lk : Nat) (pa : Nat) (nO : Nat) (dO : Nat) (c : Int32) (i : Int32) (j : Int32) (h1 : ¬ c < 0) (h2 : ¬ 9 < c) (h3 : ¬ 10 ≤ c) (h4 : i < 0) : Met l yX6_choice (.code yX6_choice cX6_choice 5 (some .int) :: WL) { frames := 1, cells := 0, slots := 0, locals := 21 } (PR g [.ref x, .int c, .int i, .int j] [(x, .inr (6, [.ref tx, .ref lk, .ref pa, .int 0, .ref nO, .ref dO, .int 0, .int 0, .int 0]))] sz) (QI g [(x, .inr (6, [.ref tx, .ref lk, .ref pa, .int 0, .ref nO, .ref dO, .int 0, .int 0, .int 0]))] sz (-2) (fun _ : Unit => [])) 0 0 (va_A [(x, .inr (6, [.ref tx, .ref lk, .ref pa, .int 0, .ref nO, .ref dO, .int 0, .int 0, .int 0]))] sz) := by
  refine k_start (by decide) (Nat.le_of_ble_eq_true rfl) ?_
  intro pp ee s m bb mm cd A H locs hAe X h ls hl
  have X : CX g pp s m mm cd _ cX6_choice 5 RX6 "choice" (some .int) A := X
  have hx := X.1
  have hb := X.2.1
  have hl : lv_has ls 5 [(0, .ref x), (1, .int c), (2, .int i), (3, .int j)] := hl
  refine lv_iload_n hx hb dX6_choice_0 rfl (lv_at hl 1 rfl) ?_
  refine k_i X h [] [0] (wr := [(x, .inr (6, [.ref tx, .ref lk, .ref pa, .int 0, .ref nO, .ref dO, .int 0, .int 0, .int 0]))]) rfl rfl rfl (by decide) 0 0 (Nat.le_of_ble_eq_true rfl) (Nat.le_of_ble_eq_true rfl) (k_runS X h (As := [.int c]) (rest := []) (c6_isStop_t l g H.size c h1 h2 h3) cw_X6_176 [] rfl rfl rfl rfl (Nat.le_of_ble_eq_true rfl) (Nat.le_of_ble_eq_true rfl) rfl hl.1 rfl (Nat.le_of_ble_eq_true rfl) dX6_choice_1 (Nat.le_of_ble_eq_true rfl) (Nat.le_of_ble_eq_true rfl)) (fun _ H locs h => ?_)
  have h : ST g A s [(x, .inr (6, [.ref tx, .ref lk, .ref pa, .int 0, .ref nO, .ref dO, .int 0, .int 0, .int 0]))] H locs := h
  refine lv_if_eq (tgt := 15) hx hb dX6_choice_4 (by decide) (fun c_1 => absurd c_1 (by decide)) (fun c_1 => ?_)
  refine lv_iload_n hx hb dX6_choice_7 rfl (lv_at hl 2 rfl) ?_
  refine lv_if_lt (tgt := 15) hx hb dX6_choice_8 (by decide) (fun c_2 => ?_) (fun c_2 => absurd h4 c_2)
  refine lv_aload_n hx hb dX6_choice_15 rfl (lv_at hl 0 rfl) ?_
  refine lv_bipush (v := (-2)) hx hb dX6_choice_16 (by decide) ?_
  refine k_i X h [0] [] (wr := []) rfl rfl rfl (by decide) 0 0 (Nat.le_of_ble_eq_true rfl) (Nat.le_of_ble_eq_true rfl) (k_runV X h (As := [.int (-2)]) (rest := []) (c6_refuse_bad l g H.size x tx lk pa nO dO) cw_X6_54 [0] rfl rfl 0 kl6 rfl rfl rfl (Nat.le_of_ble_eq_true rfl) (Nat.le_of_ble_eq_true rfl) rfl hl.1 rfl (Nat.le_of_ble_eq_true rfl) dX6_choice_18 (Nat.le_of_ble_eq_true rfl) (Nat.le_of_ble_eq_true rfl)) (fun _ H locs h => ?_)
  have h : ST g A s [] H locs := h
  exact r_iret X h hAe () [] rfl rfl 0 0 (Nat.le_of_ble_eq_true rfl) (Nat.le_of_ble_eq_true rfl) rfl dX6_choice_21

set_option maxHeartbeats 4000000 in
set_option maxRecDepth 100000 in
/-- choice of a fresh object, case ilo -/
theorem c6_choice_ilo (l : Launch) (g : GE) (sz : Nat) (x : Nat) (tx : Nat) (lk : Nat) (pa : Nat) (nO : Nat) (dO : Nat) (c : Int32) (i : Int32) (j : Int32) (h1 : ¬ c < 0) (h2 : ¬ 9 < c) (h3 : ¬ 10 ≤ c) (h4 : ¬ i < 0) (h5 : j < 0) : Met l yX6_choice (.code yX6_choice cX6_choice 5 (some .int) :: WL) { frames := 1, cells := 0, slots := 0, locals := 21 } (PR g [.ref x, .int c, .int i, .int j] [(x, .inr (6, [.ref tx, .ref lk, .ref pa, .int 0, .ref nO, .ref dO, .int 0, .int 0, .int 0]))] sz) (QI g [(x, .inr (6, [.ref tx, .ref lk, .ref pa, .int 0, .ref nO, .ref dO, .int 0, .int 0, .int 0]))] sz (-2) (fun _ : Unit => [])) 0 0 (va_A [(x, .inr (6, [.ref tx, .ref lk, .ref pa, .int 0, .ref nO, .ref dO, .int 0, .int 0, .int 0]))] sz) := by
  refine k_start (by decide) (Nat.le_of_ble_eq_true rfl) ?_
  intro pp ee s m bb mm cd A H locs hAe X h ls hl
  have X : CX g pp s m mm cd _ cX6_choice 5 RX6 "choice" (some .int) A := X
  have hx := X.1
  have hb := X.2.1
  have hl : lv_has ls 5 [(0, .ref x), (1, .int c), (2, .int i), (3, .int j)] := hl
  refine lv_iload_n hx hb dX6_choice_0 rfl (lv_at hl 1 rfl) ?_
  refine k_i X h [] [0] (wr := [(x, .inr (6, [.ref tx, .ref lk, .ref pa, .int 0, .ref nO, .ref dO, .int 0, .int 0, .int 0]))]) rfl rfl rfl (by decide) 0 0 (Nat.le_of_ble_eq_true rfl) (Nat.le_of_ble_eq_true rfl) (k_runS X h (As := [.int c]) (rest := []) (c6_isStop_t l g H.size c h1 h2 h3) cw_X6_176 [] rfl rfl rfl rfl (Nat.le_of_ble_eq_true rfl) (Nat.le_of_ble_eq_true rfl) rfl hl.1 rfl (Nat.le_of_ble_eq_true rfl) dX6_choice_1 (Nat.le_of_ble_eq_true rfl) (Nat.le_of_ble_eq_true rfl)) (fun _ H locs h => ?_)
  have h : ST g A s [(x, .inr (6, [.ref tx, .ref lk, .ref pa, .int 0, .ref nO, .ref dO, .int 0, .int 0, .int 0]))] H locs := h
  refine lv_if_eq (tgt := 15) hx hb dX6_choice_4 (by decide) (fun c_1 => absurd c_1 (by decide)) (fun c_1 => ?_)
  refine lv_iload_n hx hb dX6_choice_7 rfl (lv_at hl 2 rfl) ?_
  refine lv_if_lt (tgt := 15) hx hb dX6_choice_8 (by decide) (fun c_2 => absurd c_2 h4) (fun c_2 => ?_)
  refine lv_iload_n hx hb dX6_choice_11 rfl (lv_at hl 3 rfl) ?_
  refine lv_if_ge (tgt := 22) hx hb dX6_choice_12 (by decide) (fun c_3 => absurd c_3 (Int32.not_le.mpr h5)) (fun c_3 => ?_)
  refine lv_aload_n hx hb dX6_choice_15 rfl (lv_at hl 0 rfl) ?_
  refine lv_bipush (v := (-2)) hx hb dX6_choice_16 (by decide) ?_
  refine k_i X h [0] [] (wr := []) rfl rfl rfl (by decide) 0 0 (Nat.le_of_ble_eq_true rfl) (Nat.le_of_ble_eq_true rfl) (k_runV X h (As := [.int (-2)]) (rest := []) (c6_refuse_bad l g H.size x tx lk pa nO dO) cw_X6_54 [0] rfl rfl 0 kl6 rfl rfl rfl (Nat.le_of_ble_eq_true rfl) (Nat.le_of_ble_eq_true rfl) rfl hl.1 rfl (Nat.le_of_ble_eq_true rfl) dX6_choice_18 (Nat.le_of_ble_eq_true rfl) (Nat.le_of_ble_eq_true rfl)) (fun _ H locs h => ?_)
  have h : ST g A s [] H locs := h
  exact r_iret X h hAe () [] rfl rfl 0 0 (Nat.le_of_ble_eq_true rfl) (Nat.le_of_ble_eq_true rfl) rfl dX6_choice_21

set_option maxHeartbeats 4000000 in
set_option maxRecDepth 100000 in
/-- choice of a fresh object, case ok -/
theorem c6_choice_ok (l : Launch) (g : GE) (sz : Nat) (x : Nat) (tx : Nat) (lk : Nat) (pa : Nat) (nO : Nat) (dO : Nat) (np : Nat) (nv : Nat) (ns : Nat) (nsh : Nat) (c : Int32) (i : Int32) (j : Int32) (h1 : ¬ c < 0) (h2 : ¬ 9 < c) (h3 : ¬ 10 ≤ c) (h4 : ¬ i < 0) (h5 : ¬ j < 0) : Met l yX6_choice (.code yX6_choice cX6_choice 5 (some .int) :: WL) { frames := 1, cells := 0, slots := 0, locals := 21 } (PR g [.ref x, .int c, .int i, .int j] [(x, .inr (6, [.ref tx, .ref lk, .ref pa, .int 0, .ref nO, .ref dO, .int 0, .int 0, .int 0])), (nO, .inr (4, [.ref np, .int 0, .ref nv, .ref ns, .int 0, .ref nsh]))] sz) (QI g [(x, .inr (6, [.ref tx, .ref lk, .ref pa, .int 0, .ref nO, .ref dO, .int 0, .int 0, .int 0])), (nO, .inr (4, [.ref np, .int 0, .ref nv, .ref ns, .int 0, .ref nsh]))] sz (-3) (fun _ : Unit => [])) 0 0 (va_A [(x, .inr (6, [.ref tx, .ref lk, .ref pa, .int 0, .ref nO, .ref dO, .int 0, .int 0, .int 0])), (nO, .inr (4, [.ref np, .int 0, .ref nv, .ref ns, .int 0, .ref nsh]))] sz) := by
  refine k_start (by decide) (Nat.le_of_ble_eq_true rfl) ?_
  intro pp ee s m bb mm cd A H locs hAe X h ls hl
  have X : CX g pp s m mm cd _ cX6_choice 5 RX6 "choice" (some .int) A := X
  have hx := X.1
  have hb := X.2.1
  have hl : lv_has ls 5 [(0, .ref x), (1, .int c), (2, .int i), (3, .int j)] := hl
  refine lv_iload_n hx hb dX6_choice_0 rfl (lv_at hl 1 rfl) ?_
  refine k_i X h [] [0, 1] (wr := [(x, .inr (6, [.ref tx, .ref lk, .ref pa, .int 0, .ref nO, .ref dO, .int 0, .int 0, .int 0])), (nO, .inr (4, [.ref np, .int 0, .ref nv, .ref ns, .int 0, .ref nsh]))]) rfl rfl rfl (by decide) 0 0 (Nat.le_of_ble_eq_true rfl) (Nat.le_of_ble_eq_true rfl) (k_runS X h (As := [.int c]) (rest := []) (c6_isStop_t l g H.size c h1 h2 h3) cw_X6_176 [] rfl rfl rfl rfl (Nat.le_of_ble_eq_true rfl) (Nat.le_of_ble_eq_true rfl) rfl hl.1 rfl (Nat.le_of_ble_eq_true rfl) dX6_choice_1 (Nat.le_of_ble_eq_true rfl) (Nat.le_of_ble_eq_true rfl)) (fun _ H locs h => ?_)
  have h : ST g A s [(x, .inr (6, [.ref tx, .ref lk, .ref pa, .int 0, .ref nO, .ref dO, .int 0, .int 0, .int 0])), (nO, .inr (4, [.ref np, .int 0, .ref nv, .ref ns, .int 0, .ref nsh]))] H locs := h
  refine lv_if_eq (tgt := 15) hx hb dX6_choice_4 (by decide) (fun c_1 => absurd c_1 (by decide)) (fun c_1 => ?_)
  refine lv_iload_n hx hb dX6_choice_7 rfl (lv_at hl 2 rfl) ?_
  refine lv_if_lt (tgt := 15) hx hb dX6_choice_8 (by decide) (fun c_2 => absurd c_2 h4) (fun c_2 => ?_)
  refine lv_iload_n hx hb dX6_choice_11 rfl (lv_at hl 3 rfl) ?_
  refine lv_if_ge (tgt := 22) hx hb dX6_choice_12 (by decide) (fun c_3 => ?_) (fun c_3 => absurd (Int32.not_lt.mp h5) c_3)
  refine lv_aload_n hx hb dX6_choice_22 rfl (lv_at hl 0 rfl) ?_
  refine r_get X h kl6 0 4 rfl (by decide) lk_X6_47 rfl dX6_choice_23 ?_
  refine k_q X h [1] [0] (wr := [(x, .inr (6, [.ref tx, .ref lk, .ref pa, .int 0, .ref nO, .ref dO, .int 0, .int 0, .int 0]))]) rfl rfl rfl (by decide) 0 0 (Nat.le_of_ble_eq_true rfl) (Nat.le_of_ble_eq_true rfl) (k_runV X h (As := []) (rest := []) (c4_upp0 l g H.size nO np nv ns nsh 0) cw_X6_119 [1] rfl rfl 1 kl4 rfl rfl rfl (Nat.le_of_ble_eq_true rfl) (Nat.le_of_ble_eq_true rfl) rfl hl.1 rfl (Nat.le_of_ble_eq_true rfl) dX6_choice_26 (Nat.le_of_ble_eq_true rfl) (Nat.le_of_ble_eq_true rfl)) (fun _ H locs h => ?_)
  have h : ST g A s [(x, .inr (6, [.ref tx, .ref lk, .ref pa, .int 0, .ref nO, .ref dO, .int 0, .int 0, .int 0])), (nO, .inr (4, [.ref np, .int 0, .ref nv, .ref ns, .int 0, .ref nsh]))] H locs := h
  refine W.eq (g2 := F0 m 29 ls [.null]) rfl ?_
  refine lv_astoreN (lv' := [(4, .null), (0, .ref x), (1, .int c), (2, .int i), (3, .int j)]) hx hb dX6_choice_29 hl (by decide) rfl (fun ls hl => ?_)
  refine lv_aloadN hx hb dX6_choice_31 (lv_at hl 0 rfl) ?_
  refine lv_ifnonnullN hx hb dX6_choice_33 ?_
  refine lv_aload_n hx hb dX6_choice_36 rfl (lv_at hl 1 rfl) ?_
  refine lv_bipush (v := (-3)) hx hb dX6_choice_37 (by decide) ?_
  refine k_i X h [0] [1] (wr := [(nO, .inr (4, [.ref np, .int 0, .ref nv, .ref ns, .int 0, .ref nsh]))]) rfl rfl rfl (by decide) 0 0 (Nat.le_of_ble_eq_true rfl) (Nat.le_of_ble_eq_true rfl) (k_runV X h (As := [.int (-3)]) (rest := []) (c6_refuse_no l g H.size x tx lk pa nO dO) cw_X6_54 [0] rfl rfl 0 kl6 rfl rfl rfl (Nat.le_of_ble_eq_true rfl) (Nat.le_of_ble_eq_true rfl) rfl hl.1 rfl (Nat.le_of_ble_eq_true rfl) dX6_choice_39 (Nat.le_of_ble_eq_true rfl) (Nat.le_of_ble_eq_true rfl)) (fun _ H locs h => ?_)
  have h : ST g A s [(nO, .inr (4, [.ref np, .int 0, .ref nv, .ref ns, .int 0, .ref nsh]))] H locs := h
  exact r_iret X h hAe () [] rfl rfl 0 0 (Nat.le_of_ble_eq_true rfl) (Nat.le_of_ble_eq_true rfl) rfl dX6_choice_42

set_option maxHeartbeats 4000000 in
set_option maxRecDepth 100000 in
/-- occurrence of a fresh object, case lo -/
theorem c6_occurrence_lo (l : Launch) (g : GE) (sz : Nat) (x : Nat) (tx : Nat) (lk : Nat) (pa : Nat) (nO : Nat) (dO : Nat) (c : Int32) (i : Int32) (j : Int32) (h1 : c < 0) : Met l yX6_occurrence (.code yX6_occurrence cX6_occurrence 6 (some .int) :: WL) { frames := 1, cells := 0, slots := 0, locals := 21 } (PR g [.ref x, .int c, .int i, .int j] [(x, .inr (6, [.ref tx, .ref lk, .ref pa, .int 0, .ref nO, .ref dO, .int 0, .int 0, .int 0]))] sz) (QI g [(x, .inr (6, [.ref tx, .ref lk, .ref pa, .int 0, .ref nO, .ref dO, .int 0, .int 0, .int 0]))] sz (-2) (fun _ : Unit => [])) 0 0 (va_A [(x, .inr (6, [.ref tx, .ref lk, .ref pa, .int 0, .ref nO, .ref dO, .int 0, .int 0, .int 0]))] sz) := by
  refine k_start (by decide) (Nat.le_of_ble_eq_true rfl) ?_
  intro pp ee s m bb mm cd A H locs hAe X h ls hl
  have X : CX g pp s m mm cd _ cX6_occurrence 6 RX6 "occurrence" (some .int) A := X
  have hx := X.1
  have hb := X.2.1
  have hl : lv_has ls 6 [(0, .ref x), (1, .int c), (2, .int i), (3, .int j)] := hl
  refine lv_iload_n hx hb dX6_occurrence_0 rfl (lv_at hl 1 rfl) ?_
  refine k_i X h [] [0] (wr := [(x, .inr (6, [.ref tx, .ref lk, .ref pa, .int 0, .ref nO, .ref dO, .int 0, .int 0, .int 0]))]) rfl rfl rfl (by decide) 0 0 (Nat.le_of_ble_eq_true rfl) (Nat.le_of_ble_eq_true rfl) (k_runS X h (As := [.int c]) (rest := []) (c6_isStop_lo l g H.size c h1) cw_X6_176 [] rfl rfl rfl rfl (Nat.le_of_ble_eq_true rfl) (Nat.le_of_ble_eq_true rfl) rfl hl.1 rfl (Nat.le_of_ble_eq_true rfl) dX6_occurrence_1 (Nat.le_of_ble_eq_true rfl) (Nat.le_of_ble_eq_true rfl)) (fun _ H locs h => ?_)
  have h : ST g A s [(x, .inr (6, [.ref tx, .ref lk, .ref pa, .int 0, .ref nO, .ref dO, .int 0, .int 0, .int 0]))] H locs := h
  refine lv_if_eq (tgt := 20) hx hb dX6_occurrence_4 (by decide) (fun c_1 => ?_) (fun c_1 => absurd (by decide) c_1)
  refine lv_aload_n hx hb dX6_occurrence_20 rfl (lv_at hl 0 rfl) ?_
  refine lv_bipush (v := (-2)) hx hb dX6_occurrence_21 (by decide) ?_
  refine k_i X h [0] [] (wr := []) rfl rfl rfl (by decide) 0 0 (Nat.le_of_ble_eq_true rfl) (Nat.le_of_ble_eq_true rfl) (k_runV X h (As := [.int (-2)]) (rest := []) (c6_refuse_bad l g H.size x tx lk pa nO dO) cw_X6_54 [0] rfl rfl 0 kl6 rfl rfl rfl (Nat.le_of_ble_eq_true rfl) (Nat.le_of_ble_eq_true rfl) rfl hl.1 rfl (Nat.le_of_ble_eq_true rfl) dX6_occurrence_23 (Nat.le_of_ble_eq_true rfl) (Nat.le_of_ble_eq_true rfl)) (fun _ H locs h => ?_)
  have h : ST g A s [] H locs := h
  exact r_iret X h hAe () [] rfl rfl 0 0 (Nat.le_of_ble_eq_true rfl) (Nat.le_of_ble_eq_true rfl) rfl dX6_occurrence_26

set_option maxHeartbeats 4000000 in
set_option maxRecDepth 100000 in
/-- occurrence of a fresh object, case hi -/
theorem c6_occurrence_hi (l : Launch) (g : GE) (sz : Nat) (x : Nat) (tx : Nat) (lk : Nat) (pa : Nat) (nO : Nat) (dO : Nat) (c : Int32) (i : Int32) (j : Int32) (h1 : ¬ c < 0) (h2 : 9 < c) (h3 : 10 ≤ c) : Met l yX6_occurrence (.code yX6_occurrence cX6_occurrence 6 (some .int) :: WL) { frames := 1, cells := 0, slots := 0, locals := 21 } (PR g [.ref x, .int c, .int i, .int j] [(x, .inr (6, [.ref tx, .ref lk, .ref pa, .int 0, .ref nO, .ref dO, .int 0, .int 0, .int 0]))] sz) (QI g [(x, .inr (6, [.ref tx, .ref lk, .ref pa, .int 0, .ref nO, .ref dO, .int 0, .int 0, .int 0]))] sz (-2) (fun _ : Unit => [])) 0 0 (va_A [(x, .inr (6, [.ref tx, .ref lk, .ref pa, .int 0, .ref nO, .ref dO, .int 0, .int 0, .int 0]))] sz) := by
  refine k_start (by decide) (Nat.le_of_ble_eq_true rfl) ?_
  intro pp ee s m bb mm cd A H locs hAe X h ls hl
  have X : CX g pp s m mm cd _ cX6_occurrence 6 RX6 "occurrence" (some .int) A := X
  have hx := X.1
  have hb := X.2.1
  have hl : lv_has ls 6 [(0, .ref x), (1, .int c), (2, .int i), (3, .int j)] := hl
  refine lv_iload_n hx hb dX6_occurrence_0 rfl (lv_at hl 1 rfl) ?_
  refine k_i X h [] [0] (wr := [(x, .inr (6, [.ref tx, .ref lk, .ref pa, .int 0, .ref nO, .ref dO, .int 0, .int 0, .int 0]))]) rfl rfl rfl (by decide) 0 0 (Nat.le_of_ble_eq_true rfl) (Nat.le_of_ble_eq_true rfl) (k_runS X h (As := [.int c]) (rest := []) (c6_isStop_hi l g H.size c h1 h2 h3) cw_X6_176 [] rfl rfl rfl rfl (Nat.le_of_ble_eq_true rfl) (Nat.le_of_ble_eq_true rfl) rfl hl.1 rfl (Nat.le_of_ble_eq_true rfl) dX6_occurrence_1 (Nat.le_of_ble_eq_true rfl) (Nat.le_of_ble_eq_true rfl)) (fun _ H locs h => ?_)
  have h : ST g A s [(x, .inr (6, [.ref tx, .ref lk, .ref pa, .int 0, .ref nO, .ref dO, .int 0, .int 0, .int 0]))] H locs := h
  refine lv_if_eq (tgt := 20) hx hb dX6_occurrence_4 (by decide) (fun c_1 => ?_) (fun c_1 => absurd (by decide) c_1)
  refine lv_aload_n hx hb dX6_occurrence_20 rfl (lv_at hl 0 rfl) ?_
  refine lv_bipush (v := (-2)) hx hb dX6_occurrence_21 (by decide) ?_
  refine k_i X h [0] [] (wr := []) rfl rfl rfl (by decide) 0 0 (Nat.le_of_ble_eq_true rfl) (Nat.le_of_ble_eq_true rfl) (k_runV X h (As := [.int (-2)]) (rest := []) (c6_refuse_bad l g H.size x tx lk pa nO dO) cw_X6_54 [0] rfl rfl 0 kl6 rfl rfl rfl (Nat.le_of_ble_eq_true rfl) (Nat.le_of_ble_eq_true rfl) rfl hl.1 rfl (Nat.le_of_ble_eq_true rfl) dX6_occurrence_23 (Nat.le_of_ble_eq_true rfl) (Nat.le_of_ble_eq_true rfl)) (fun _ H locs h => ?_)
  have h : ST g A s [] H locs := h
  exact r_iret X h hAe () [] rfl rfl 0 0 (Nat.le_of_ble_eq_true rfl) (Nat.le_of_ble_eq_true rfl) rfl dX6_occurrence_26

set_option maxHeartbeats 4000000 in
set_option maxRecDepth 100000 in
/-- occurrence of a fresh object, case jlo -/
theorem c6_occurrence_jlo (l : Launch) (g : GE) (sz : Nat) (x : Nat) (tx : Nat) (lk : Nat) (pa : Nat) (nO : Nat) (dO : Nat) (c : Int32) (i : Int32) (j : Int32) (h1 : ¬ c < 0) (h2 : ¬ 9 < c) (h3 : ¬ 10 ≤ c) (h4 : i < 0) : Met l yX6_occurrence (.code yX6_occurrence cX6_occurrence 6 (some .int) :: WL) { frames := 1, cells := 0, slots := 0, locals := 21 } (PR g [.ref x, .int c, .int i, .int j] [(x, .inr (6, [.ref tx, .ref lk, .ref pa, .int 0, .ref nO, .ref dO, .int 0, .int 0, .int 0]))] sz) (QI g [(x, .inr (6, [.ref tx, .ref lk, .ref pa, .int 0, .ref nO, .ref dO, .int 0, .int 0, .int 0]))] sz (-2) (fun _ : Unit => [])) 0 0 (va_A [(x, .inr (6, [.ref tx, .ref lk, .ref pa, .int 0, .ref nO, .ref dO, .int 0, .int 0, .int 0]))] sz) := by
  refine k_start (by decide) (Nat.le_of_ble_eq_true rfl) ?_
  intro pp ee s m bb mm cd A H locs hAe X h ls hl
  have X : CX g pp s m mm cd _ cX6_occurrence 6 RX6 "occurrence" (some .int) A := X
  have hx := X.1
  have hb := X.2.1
  have hl : lv_has ls 6 [(0, .ref x), (1, .int c), (2, .int i), (3, .int j)] := hl
  refine lv_iload_n hx hb dX6_occurrence_0 rfl (lv_at hl 1 rfl) ?_
  refine k_i X h [] [0] (wr := [(x, .inr (6, [.ref tx, .ref lk, .ref pa, .int 0, .ref nO, .ref dO, .int 0, .int 0, .int 0]))]) rfl rfl rfl (by decide) 0 0 (Nat.le_of_ble_eq_true rfl) (Nat.le_of_ble_eq_true rfl) (k_runS X h (As := [.int c]) (rest := []) (c6_isStop_t l g H.size c h1 h2 h3) cw_X6_176 [] rfl rfl rfl rfl (Nat.le_of_ble_eq_true rfl) (Nat.le_of_ble_eq_true rfl) rfl hl.1 rfl (Nat.le_of_ble_eq_true rfl) dX6_occurrence_1 (Nat.le_of_ble_eq_true rfl) (Nat.le_of_ble_eq_true rfl)) (fun _ H locs h => ?_)
  have h : ST g A s [(x, .inr (6, [.ref tx, .ref lk, .ref pa, .int 0, .ref nO, .ref dO, .int 0, .int 0, .int 0]))] H locs := h
  refine lv_if_eq (tgt := 20) hx hb dX6_occurrence_4 (by decide) (fun c_1 => absurd c_1 (by decide)) (fun c_1 => ?_)
  refine lv_iload_n hx hb dX6_occurrence_7 rfl (lv_at hl 2 rfl) ?_
  refine lv_if_lt (tgt := 20) hx hb dX6_occurrence_8 (by decide) (fun c_2 => ?_) (fun c_2 => absurd h4 c_2)
  refine lv_aload_n hx hb dX6_occurrence_20 rfl (lv_at hl 0 rfl) ?_
  refine lv_bipush (v := (-2)) hx hb dX6_occurrence_21 (by decide) ?_
  refine k_i X h [0] [] (wr := []) rfl rfl rfl (by decide) 0 0 (Nat.le_of_ble_eq_true rfl) (Nat.le_of_ble_eq_true rfl) (k_runV X h (As := [.int (-2)]) (rest := []) (c6_refuse_bad l g H.size x tx lk pa nO dO) cw_X6_54 [0] rfl rfl 0 kl6 rfl rfl rfl (Nat.le_of_ble_eq_true rfl) (Nat.le_of_ble_eq_true rfl) rfl hl.1 rfl (Nat.le_of_ble_eq_true rfl) dX6_occurrence_23 (Nat.le_of_ble_eq_true rfl) (Nat.le_of_ble_eq_true rfl)) (fun _ H locs h => ?_)
  have h : ST g A s [] H locs := h
  exact r_iret X h hAe () [] rfl rfl 0 0 (Nat.le_of_ble_eq_true rfl) (Nat.le_of_ble_eq_true rfl) rfl dX6_occurrence_26

set_option maxHeartbeats 4000000 in
set_option maxRecDepth 100000 in
/-- occurrence of a fresh object, case wlo -/
theorem c6_occurrence_wlo (l : Launch) (g : GE) (sz : Nat) (x : Nat) (tx : Nat) (lk : Nat) (pa : Nat) (nO : Nat) (dO : Nat) (c : Int32) (i : Int32) (j : Int32) (h1 : ¬ c < 0) (h2 : ¬ 9 < c) (h3 : ¬ 10 ≤ c) (h4 : ¬ i < 0) (h5 : j < 0) : Met l yX6_occurrence (.code yX6_occurrence cX6_occurrence 6 (some .int) :: WL) { frames := 1, cells := 0, slots := 0, locals := 21 } (PR g [.ref x, .int c, .int i, .int j] [(x, .inr (6, [.ref tx, .ref lk, .ref pa, .int 0, .ref nO, .ref dO, .int 0, .int 0, .int 0]))] sz) (QI g [(x, .inr (6, [.ref tx, .ref lk, .ref pa, .int 0, .ref nO, .ref dO, .int 0, .int 0, .int 0]))] sz (-2) (fun _ : Unit => [])) 0 0 (va_A [(x, .inr (6, [.ref tx, .ref lk, .ref pa, .int 0, .ref nO, .ref dO, .int 0, .int 0, .int 0]))] sz) := by
  refine k_start (by decide) (Nat.le_of_ble_eq_true rfl) ?_
  intro pp ee s m bb mm cd A H locs hAe X h ls hl
  have X : CX g pp s m mm cd _ cX6_occurrence 6 RX6 "occurrence" (some .int) A := X
  have hx := X.1
  have hb := X.2.1
  have hl : lv_has ls 6 [(0, .ref x), (1, .int c), (2, .int i), (3, .int j)] := hl
  refine lv_iload_n hx hb dX6_occurrence_0 rfl (lv_at hl 1 rfl) ?_
  refine k_i X h [] [0] (wr := [(x, .inr (6, [.ref tx, .ref lk, .ref pa, .int 0, .ref nO, .ref dO, .int 0, .int 0, .int 0]))]) rfl rfl rfl (by decide) 0 0 (Nat.le_of_ble_eq_true rfl) (Nat.le_of_ble_eq_true rfl) (k_runS X h (As := [.int c]) (rest := []) (c6_isStop_t l g H.size c h1 h2 h3) cw_X6_176 [] rfl rfl rfl rfl (Nat.le_of_ble_eq_true rfl) (Nat.le_of_ble_eq_true rfl) rfl hl.1 rfl (Nat.le_of_ble_eq_true rfl) dX6_occurrence_1 (Nat.le_of_ble_eq_true rfl) (Nat.le_of_ble_eq_true rfl)) (fun _ H locs h => ?_)
  have h : ST g A s [(x, .inr (6, [.ref tx, .ref lk, .ref pa, .int 0, .ref nO, .ref dO, .int 0, .int 0, .int 0]))] H locs := h
  refine lv_if_eq (tgt := 20) hx hb dX6_occurrence_4 (by decide) (fun c_1 => absurd c_1 (by decide)) (fun c_1 => ?_)
  refine lv_iload_n hx hb dX6_occurrence_7 rfl (lv_at hl 2 rfl) ?_
  refine lv_if_lt (tgt := 20) hx hb dX6_occurrence_8 (by decide) (fun c_2 => absurd c_2 h4) (fun c_2 => ?_)
  refine lv_iload_n hx hb dX6_occurrence_11 rfl (lv_at hl 3 rfl) ?_
  refine lv_if_lt (tgt := 20) hx hb dX6_occurrence_12 (by decide) (fun c_3 => ?_) (fun c_3 => absurd h5 c_3)
  refine lv_aload_n hx hb dX6_occurrence_20 rfl (lv_at hl 0 rfl) ?_
  refine lv_bipush (v := (-2)) hx hb dX6_occurrence_21 (by decide) ?_
  refine k_i X h [0] [] (wr := []) rfl rfl rfl (by decide) 0 0 (Nat.le_of_ble_eq_true rfl) (Nat.le_of_ble_eq_true rfl) (k_runV X h (As := [.int (-2)]) (rest := []) (c6_refuse_bad l g H.size x tx lk pa nO dO) cw_X6_54 [0] rfl rfl 0 kl6 rfl rfl rfl (Nat.le_of_ble_eq_true rfl) (Nat.le_of_ble_eq_true rfl) rfl hl.1 rfl (Nat.le_of_ble_eq_true rfl) dX6_occurrence_23 (Nat.le_of_ble_eq_true rfl) (Nat.le_of_ble_eq_true rfl)) (fun _ H locs h => ?_)
  have h : ST g A s [] H locs := h
  exact r_iret X h hAe () [] rfl rfl 0 0 (Nat.le_of_ble_eq_true rfl) (Nat.le_of_ble_eq_true rfl) rfl dX6_occurrence_26

set_option maxHeartbeats 4000000 in
set_option maxRecDepth 100000 in
/-- occurrence of a fresh object, case whi -/
theorem c6_occurrence_whi (l : Launch) (g : GE) (sz : Nat) (x : Nat) (tx : Nat) (lk : Nat) (pa : Nat) (nO : Nat) (dO : Nat) (c : Int32) (i : Int32) (j : Int32) (h1 : ¬ c < 0) (h2 : ¬ 9 < c) (h3 : ¬ 10 ≤ c) (h4 : ¬ i < 0) (h5 : ¬ j < 0) (h6 : 3 < j) : Met l yX6_occurrence (.code yX6_occurrence cX6_occurrence 6 (some .int) :: WL) { frames := 1, cells := 0, slots := 0, locals := 21 } (PR g [.ref x, .int c, .int i, .int j] [(x, .inr (6, [.ref tx, .ref lk, .ref pa, .int 0, .ref nO, .ref dO, .int 0, .int 0, .int 0]))] sz) (QI g [(x, .inr (6, [.ref tx, .ref lk, .ref pa, .int 0, .ref nO, .ref dO, .int 0, .int 0, .int 0]))] sz (-2) (fun _ : Unit => [])) 0 0 (va_A [(x, .inr (6, [.ref tx, .ref lk, .ref pa, .int 0, .ref nO, .ref dO, .int 0, .int 0, .int 0]))] sz) := by
  refine k_start (by decide) (Nat.le_of_ble_eq_true rfl) ?_
  intro pp ee s m bb mm cd A H locs hAe X h ls hl
  have X : CX g pp s m mm cd _ cX6_occurrence 6 RX6 "occurrence" (some .int) A := X
  have hx := X.1
  have hb := X.2.1
  have hl : lv_has ls 6 [(0, .ref x), (1, .int c), (2, .int i), (3, .int j)] := hl
  refine lv_iload_n hx hb dX6_occurrence_0 rfl (lv_at hl 1 rfl) ?_
  refine k_i X h [] [0] (wr := [(x, .inr (6, [.ref tx, .ref lk, .ref pa, .int 0, .ref nO, .ref dO, .int 0, .int 0, .int 0]))]) rfl rfl rfl (by decide) 0 0 (Nat.le_of_ble_eq_true rfl) (Nat.le_of_ble_eq_true rfl) (k_runS X h (As := [.int c]) (rest := []) (c6_isStop_t l g H.size c h1 h2 h3) cw_X6_176 [] rfl rfl rfl rfl (Nat.le_of_ble_eq_true rfl) (Nat.le_of_ble_eq_true rfl) rfl hl.1 rfl (Nat.le_of_ble_eq_true rfl) dX6_occurrence_1 (Nat.le_of_ble_eq_true rfl) (Nat.le_of_ble_eq_true rfl)) (fun _ H locs h => ?_)
  have h : ST g A s [(x, .inr (6, [.ref tx, .ref lk, .ref pa, .int 0, .ref nO, .ref dO, .int 0, .int 0, .int 0]))] H locs := h
  refine lv_if_eq (tgt := 20) hx hb dX6_occurrence_4 (by decide) (fun c_1 => absurd c_1 (by decide)) (fun c_1 => ?_)
  refine lv_iload_n hx hb dX6_occurrence_7 rfl (lv_at hl 2 rfl) ?_
  refine lv_if_lt (tgt := 20) hx hb dX6_occurrence_8 (by decide) (fun c_2 => absurd c_2 h4) (fun c_2 => ?_)
  refine lv_iload_n hx hb dX6_occurrence_11 rfl (lv_at hl 3 rfl) ?_
  refine lv_if_lt (tgt := 20) hx hb dX6_occurrence_12 (by decide) (fun c_3 => absurd c_3 h5) (fun c_3 => ?_)
  refine lv_iload_n hx hb dX6_occurrence_15 rfl (lv_at hl 3 rfl) ?_
  refine lv_iconst (v := 3) hx hb dX6_occurrence_16 (by decide) ?_
  refine lv_icmp_le (tgt := 27) hx hb dX6_occurrence_17 (by decide) (fun c_4 => absurd c_4 (Int32.not_le.mpr h6)) (fun c_4 => ?_)
  refine lv_aload_n hx hb dX6_occurrence_20 rfl (lv_at hl 0 rfl) ?_
  refine lv_bipush (v := (-2)) hx hb dX6_occurrence_21 (by decide) ?_
  refine k_i X h [0] [] (wr := []) rfl rfl rfl (by decide) 0 0 (Nat.le_of_ble_eq_true rfl) (Nat.le_of_ble_eq_true rfl) (k_runV X h (As := [.int (-2)]) (rest := []) (c6_refuse_bad l g H.size x tx lk pa nO dO) cw_X6_54 [0] rfl rfl 0 kl6 rfl rfl rfl (Nat.le_of_ble_eq_true rfl) (Nat.le_of_ble_eq_true rfl) rfl hl.1 rfl (Nat.le_of_ble_eq_true rfl) dX6_occurrence_23 (Nat.le_of_ble_eq_true rfl) (Nat.le_of_ble_eq_true rfl)) (fun _ H locs h => ?_)
  have h : ST g A s [] H locs := h
  exact r_iret X h hAe () [] rfl rfl 0 0 (Nat.le_of_ble_eq_true rfl) (Nat.le_of_ble_eq_true rfl) rfl dX6_occurrence_26

set_option maxHeartbeats 4000000 in
set_option maxRecDepth 100000 in
/-- occurrence of a fresh object, case ok -/
theorem c6_occurrence_ok (l : Launch) (g : GE) (sz : Nat) (x : Nat) (tx : Nat) (lk : Nat) (pa : Nat) (nO : Nat) (dO : Nat) (np : Nat) (nv : Nat) (ns : Nat) (nsh : Nat) (c : Int32) (i : Int32) (j : Int32) (h1 : ¬ c < 0) (h2 : ¬ 9 < c) (h3 : ¬ 10 ≤ c) (h4 : ¬ i < 0) (h5 : ¬ j < 0) (h6 : ¬ 3 < j) : Met l yX6_occurrence (.code yX6_occurrence cX6_occurrence 6 (some .int) :: WL) { frames := 1, cells := 0, slots := 0, locals := 21 } (PR g [.ref x, .int c, .int i, .int j] [(x, .inr (6, [.ref tx, .ref lk, .ref pa, .int 0, .ref nO, .ref dO, .int 0, .int 0, .int 0])), (nO, .inr (4, [.ref np, .int 0, .ref nv, .ref ns, .int 0, .ref nsh]))] sz) (QI g [(x, .inr (6, [.ref tx, .ref lk, .ref pa, .int 0, .ref nO, .ref dO, .int 0, .int 0, .int 0])), (nO, .inr (4, [.ref np, .int 0, .ref nv, .ref ns, .int 0, .ref nsh]))] sz (-3) (fun _ : Unit => [])) 0 0 (va_A [(x, .inr (6, [.ref tx, .ref lk, .ref pa, .int 0, .ref nO, .ref dO, .int 0, .int 0, .int 0])), (nO, .inr (4, [.ref np, .int 0, .ref nv, .ref ns, .int 0, .ref nsh]))] sz) := by
  refine k_start (by decide) (Nat.le_of_ble_eq_true rfl) ?_
  intro pp ee s m bb mm cd A H locs hAe X h ls hl
  have X : CX g pp s m mm cd _ cX6_occurrence 6 RX6 "occurrence" (some .int) A := X
  have hx := X.1
  have hb := X.2.1
  have hl : lv_has ls 6 [(0, .ref x), (1, .int c), (2, .int i), (3, .int j)] := hl
  refine lv_iload_n hx hb dX6_occurrence_0 rfl (lv_at hl 1 rfl) ?_
  refine k_i X h [] [0, 1] (wr := [(x, .inr (6, [.ref tx, .ref lk, .ref pa, .int 0, .ref nO, .ref dO, .int 0, .int 0, .int 0])), (nO, .inr (4, [.ref np, .int 0, .ref nv, .ref ns, .int 0, .ref nsh]))]) rfl rfl rfl (by decide) 0 0 (Nat.le_of_ble_eq_true rfl) (Nat.le_of_ble_eq_true rfl) (k_runS X h (As := [.int c]) (rest := []) (c6_isStop_t l g H.size c h1 h2 h3) cw_X6_176 [] rfl rfl rfl rfl (Nat.le_of_ble_eq_true rfl) (Nat.le_of_ble_eq_true rfl) rfl hl.1 rfl (Nat.le_of_ble_eq_true rfl) dX6_occurrence_1 (Nat.le_of_ble_eq_true rfl) (Nat.le_of_ble_eq_true rfl)) (fun _ H locs h => ?_)
  have h : ST g A s [(x, .inr (6, [.ref tx, .ref lk, .ref pa, .int 0, .ref nO, .ref dO, .int 0, .int 0, .int 0])), (nO, .inr (4, [.ref np, .int 0, .ref nv, .ref ns, .int 0, .ref nsh]))] H locs := h
  refine lv_if_eq (tgt := 20) hx hb dX6_occurrence_4 (by decide) (fun c_1 => absurd c_1 (by decide)) (fun c_1 => ?_)
  refine lv_iload_n hx hb dX6_occurrence_7 rfl (lv_at hl 2 rfl) ?_
  refine lv_if_lt (tgt := 20) hx hb dX6_occurrence_8 (by decide) (fun c_2 => absurd c_2 h4) (fun c_2 => ?_)
  refine lv_iload_n hx hb dX6_occurrence_11 rfl (lv_at hl 3 rfl) ?_
  refine lv_if_lt (tgt := 20) hx hb dX6_occurrence_12 (by decide) (fun c_3 => absurd c_3 h5) (fun c_3 => ?_)
  refine lv_iload_n hx hb dX6_occurrence_15 rfl (lv_at hl 3 rfl) ?_
  refine lv_iconst (v := 3) hx hb dX6_occurrence_16 (by decide) ?_
  refine lv_icmp_le (tgt := 27) hx hb dX6_occurrence_17 (by decide) (fun c_4 => ?_) (fun c_4 => absurd (Int32.not_lt.mp h6) c_4)
  refine lv_aload_n hx hb dX6_occurrence_27 rfl (lv_at hl 0 rfl) ?_
  refine r_get X h kl6 0 4 rfl (by decide) lk_X6_47 rfl dX6_occurrence_28 ?_
  refine k_q X h [1] [0] (wr := [(x, .inr (6, [.ref tx, .ref lk, .ref pa, .int 0, .ref nO, .ref dO, .int 0, .int 0, .int 0]))]) rfl rfl rfl (by decide) 0 0 (Nat.le_of_ble_eq_true rfl) (Nat.le_of_ble_eq_true rfl) (k_runV X h (As := []) (rest := []) (c4_upp0 l g H.size nO np nv ns nsh 0) cw_X6_119 [1] rfl rfl 1 kl4 rfl rfl rfl (Nat.le_of_ble_eq_true rfl) (Nat.le_of_ble_eq_true rfl) rfl hl.1 rfl (Nat.le_of_ble_eq_true rfl) dX6_occurrence_31 (Nat.le_of_ble_eq_true rfl) (Nat.le_of_ble_eq_true rfl)) (fun _ H locs h => ?_)
  have h : ST g A s [(x, .inr (6, [.ref tx, .ref lk, .ref pa, .int 0, .ref nO, .ref dO, .int 0, .int 0, .int 0])), (nO, .inr (4, [.ref np, .int 0, .ref nv, .ref ns, .int 0, .ref nsh]))] H locs := h
  refine W.eq (g2 := F0 m 34 ls [.null]) rfl ?_
  refine lv_astoreN (lv' := [(4, .null), (0, .ref x), (1, .int c), (2, .int i), (3, .int j)]) hx hb dX6_occurrence_34 hl (by decide) rfl (fun ls hl => ?_)
  refine lv_aloadN hx hb dX6_occurrence_36 (lv_at hl 0 rfl) ?_
  refine lv_ifnonnullN hx hb dX6_occurrence_38 ?_
  refine lv_aload_n hx hb dX6_occurrence_41 rfl (lv_at hl 1 rfl) ?_
  refine lv_bipush (v := (-3)) hx hb dX6_occurrence_42 (by decide) ?_
  refine k_i X h [0] [1] (wr := [(nO, .inr (4, [.ref np, .int 0, .ref nv, .ref ns, .int 0, .ref nsh]))]) rfl rfl rfl (by decide) 0 0 (Nat.le_of_ble_eq_true rfl) (Nat.le_of_ble_eq_true rfl) (k_runV X h (As := [.int (-3)]) (rest := []) (c6_refuse_no l g H.size x tx lk pa nO dO) cw_X6_54 [0] rfl rfl 0 kl6 rfl rfl rfl (Nat.le_of_ble_eq_true rfl) (Nat.le_of_ble_eq_true rfl) rfl hl.1 rfl (Nat.le_of_ble_eq_true rfl) dX6_occurrence_44 (Nat.le_of_ble_eq_true rfl) (Nat.le_of_ble_eq_true rfl)) (fun _ H locs h => ?_)
  have h : ST g A s [(nO, .inr (4, [.ref np, .int 0, .ref nv, .ref ns, .int 0, .ref nsh]))] H locs := h
  exact r_iret X h hAe () [] rfl rfl 0 0 (Nat.le_of_ble_eq_true rfl) (Nat.le_of_ble_eq_true rfl) rfl dX6_occurrence_47

set_option maxHeartbeats 4000000 in
set_option maxRecDepth 100000 in
/-- unlike of a fresh object, case  -/
theorem c6_unlike (l : Launch) (g : GE) (sz : Nat) (x : Nat) (tx : Nat) (lk : Nat) (pa : Nat) (nO : Nat) (dO : Nat) (np : Nat) (nv : Nat) (ns : Nat) (nsh : Nat) : Met l yX6_unlike (.code yX6_unlike cX6_unlike 2 (some .int) :: WL) { frames := 1, cells := 0, slots := 0, locals := 20 } (PR g [.ref x] [(x, .inr (6, [.ref tx, .ref lk, .ref pa, .int 0, .ref nO, .ref dO, .int 0, .int 0, .int 0])), (nO, .inr (4, [.ref np, .int 0, .ref nv, .ref ns, .int 0, .ref nsh]))] sz) (QI g [(x, .inr (6, [.ref tx, .ref lk, .ref pa, .int 0, .ref nO, .ref dO, .int 0, .int 0, .int 0])), (nO, .inr (4, [.ref np, .int 0, .ref nv, .ref ns, .int 0, .ref nsh]))] sz 0 (fun _ : Unit => [])) 0 0 (va_A [(x, .inr (6, [.ref tx, .ref lk, .ref pa, .int 0, .ref nO, .ref dO, .int 0, .int 0, .int 0])), (nO, .inr (4, [.ref np, .int 0, .ref nv, .ref ns, .int 0, .ref nsh]))] sz) := by
  refine k_start (by decide) (Nat.le_of_ble_eq_true rfl) ?_
  intro pp ee s m bb mm cd A H locs hAe X h ls hl
  have X : CX g pp s m mm cd _ cX6_unlike 2 RX6 "unlike" (some .int) A := X
  have hx := X.1
  have hb := X.2.1
  have hl : lv_has ls 2 [(0, .ref x)] := hl
  refine lv_aload_n hx hb dX6_unlike_0 rfl (lv_at hl 0 rfl) ?_
  refine r_get X h kl6 0 4 rfl (by decide) lk_X6_47 rfl dX6_unlike_1 ?_
  refine k_q X h [1] [0] (wr := [(x, .inr (6, [.ref tx, .ref lk, .ref pa, .int 0, .ref nO, .ref dO, .int 0, .int 0, .int 0]))]) rfl rfl rfl (by decide) 0 0 (Nat.le_of_ble_eq_true rfl) (Nat.le_of_ble_eq_true rfl) (k_runV X h (As := []) (rest := []) (c4_upp0 l g H.size nO np nv ns nsh 0) cw_X6_119 [1] rfl rfl 1 kl4 rfl rfl rfl (Nat.le_of_ble_eq_true rfl) (Nat.le_of_ble_eq_true rfl) rfl hl.1 rfl (Nat.le_of_ble_eq_true rfl) dX6_unlike_4 (Nat.le_of_ble_eq_true rfl) (Nat.le_of_ble_eq_true rfl)) (fun _ H locs h => ?_)
  have h : ST g A s [(x, .inr (6, [.ref tx, .ref lk, .ref pa, .int 0, .ref nO, .ref dO, .int 0, .int 0, .int 0])), (nO, .inr (4, [.ref np, .int 0, .ref nv, .ref ns, .int 0, .ref nsh]))] H locs := h
  refine W.eq (g2 := F0 m 7 ls [.null]) rfl ?_
  refine lv_astore_nN (lv' := [(1, .null), (0, .ref x)]) hx hb dX6_unlike_7 rfl hl (by decide) rfl (fun ls hl => ?_)
  refine lv_aload_nN hx hb dX6_unlike_8 rfl (lv_at hl 0 rfl) ?_
  refine lv_ifnonnullN hx hb dX6_unlike_9 ?_
  refine lv_iconst (v := 0) hx hb dX6_unlike_12 (by decide) ?_
  refine lv_goto (tgt := 20) hx hb dX6_unlike_13 (by decide) ?_
  exact r_iret X h hAe () [] rfl rfl 0 0 (Nat.le_of_ble_eq_true rfl) (Nat.le_of_ble_eq_true rfl) rfl dX6_unlike_20

set_option maxHeartbeats 4000000 in
set_option maxRecDepth 100000 in
/-- variableAt of a fresh object, case lo -/
theorem c6_variableAt_lo (l : Launch) (g : GE) (sz : Nat) (x : Nat) (tx : Nat) (lk : Nat) (pa : Nat) (nO : Nat) (dO : Nat) (c : Int32) (i : Int32) (h1 : c < 0) : Met l yX6_variableAt (.code yX6_variableAt cX6_variableAt 3 (some .int) :: WL) { frames := 1, cells := 0, slots := 0, locals := 21 } (PR g [.ref x, .int c, .int i] [(x, .inr (6, [.ref tx, .ref lk, .ref pa, .int 0, .ref nO, .ref dO, .int 0, .int 0, .int 0]))] sz) (QI g [(x, .inr (6, [.ref tx, .ref lk, .ref pa, .int 0, .ref nO, .ref dO, .int 0, .int 0, .int 0]))] sz (-2) (fun _ : Unit => [])) 0 0 (va_A [(x, .inr (6, [.ref tx, .ref lk, .ref pa, .int 0, .ref nO, .ref dO, .int 0, .int 0, .int 0]))] sz) := by
  refine k_start (by decide) (Nat.le_of_ble_eq_true rfl) ?_
  intro pp ee s m bb mm cd A H locs hAe X h ls hl
  have X : CX g pp s m mm cd _ cX6_variableAt 3 RX6 "variableAt" (some .int) A := X
  have hx := X.1
  have hb := X.2.1
  have hl : lv_has ls 3 [(0, .ref x), (1, .int c), (2, .int i)] := hl
  refine lv_iload_n hx hb dX6_variableAt_0 rfl (lv_at hl 1 rfl) ?_
  refine k_i X h [] [0] (wr := [(x, .inr (6, [.ref tx, .ref lk, .ref pa, .int 0, .ref nO, .ref dO, .int 0, .int 0, .int 0]))]) rfl rfl rfl (by decide) 0 0 (Nat.le_of_ble_eq_true rfl) (Nat.le_of_ble_eq_true rfl) (k_runS X h (As := [.int c]) (rest := []) (c6_isVariable_lo l g H.size c h1) cw_X6_68 [] rfl rfl rfl rfl (Nat.le_of_ble_eq_true rfl) (Nat.le_of_ble_eq_true rfl) rfl hl.1 rfl (Nat.le_of_ble_eq_true rfl) dX6_variableAt_1 (Nat.le_of_ble_eq_true rfl) (Nat.le_of_ble_eq_true rfl)) (fun _ H locs h => ?_)
  have h : ST g A s [(x, .inr (6, [.ref tx, .ref lk, .ref pa, .int 0, .ref nO, .ref dO, .int 0, .int 0, .int 0]))] H locs := h
  refine lv_if_eq (tgt := 11) hx hb dX6_variableAt_4 (by decide) (fun c_1 => ?_) (fun c_1 => absurd (by decide) c_1)
  refine lv_aload_n hx hb dX6_variableAt_11 rfl (lv_at hl 0 rfl) ?_
  refine lv_bipush (v := (-2)) hx hb dX6_variableAt_12 (by decide) ?_
  refine k_i X h [0] [] (wr := []) rfl rfl rfl (by decide) 0 0 (Nat.le_of_ble_eq_true rfl) (Nat.le_of_ble_eq_true rfl) (k_runV X h (As := [.int (-2)]) (rest := []) (c6_refuse_bad l g H.size x tx lk pa nO dO) cw_X6_54 [0] rfl rfl 0 kl6 rfl rfl rfl (Nat.le_of_ble_eq_true rfl) (Nat.le_of_ble_eq_true rfl) rfl hl.1 rfl (Nat.le_of_ble_eq_true rfl) dX6_variableAt_14 (Nat.le_of_ble_eq_true rfl) (Nat.le_of_ble_eq_true rfl)) (fun _ H locs h => ?_)
  have h : ST g A s [] H locs := h
  refine lv_goto (tgt := 33) hx hb dX6_variableAt_17 (by decide) ?_
  exact r_iret X h hAe () [] rfl rfl 0 0 (Nat.le_of_ble_eq_true rfl) (Nat.le_of_ble_eq_true rfl) rfl dX6_variableAt_33

set_option maxHeartbeats 4000000 in
set_option maxRecDepth 100000 in
/-- variableAt of a fresh object, case hi -/
theorem c6_variableAt_hi (l : Launch) (g : GE) (sz : Nat) (x : Nat) (tx : Nat) (lk : Nat) (pa : Nat) (nO : Nat) (dO : Nat) (c : Int32) (i : Int32) (h1 : ¬ c < 0) (h2 : 3 < c) (h3 : 4 ≤ c) : Met l yX6_variableAt (.code yX6_variableAt cX6_variableAt 3 (some .int) :: WL) { frames := 1, cells := 0, slots := 0, locals := 21 } (PR g [.ref x, .int c, .int i] [(x, .inr (6, [.ref tx, .ref lk, .ref pa, .int 0, .ref nO, .ref dO, .int 0, .int 0, .int 0]))] sz) (QI g [(x, .inr (6, [.ref tx, .ref lk, .ref pa, .int 0, .ref nO, .ref dO, .int 0, .int 0, .int 0]))] sz (-2) (fun _ : Unit => [])) 0 0 (va_A [(x, .inr (6, [.ref tx, .ref lk, .ref pa, .int 0, .ref nO, .ref dO, .int 0, .int 0, .int 0]))] sz) := by
  refine k_start (by decide) (Nat.le_of_ble_eq_true rfl) ?_
  intro pp ee s m bb mm cd A H locs hAe X h ls hl
  have X : CX g pp s m mm cd _ cX6_variableAt 3 RX6 "variableAt" (some .int) A := X
  have hx := X.1
  have hb := X.2.1
  have hl : lv_has ls 3 [(0, .ref x), (1, .int c), (2, .int i)] := hl
  refine lv_iload_n hx hb dX6_variableAt_0 rfl (lv_at hl 1 rfl) ?_
  refine k_i X h [] [0] (wr := [(x, .inr (6, [.ref tx, .ref lk, .ref pa, .int 0, .ref nO, .ref dO, .int 0, .int 0, .int 0]))]) rfl rfl rfl (by decide) 0 0 (Nat.le_of_ble_eq_true rfl) (Nat.le_of_ble_eq_true rfl) (k_runS X h (As := [.int c]) (rest := []) (c6_isVariable_hi l g H.size c h1 h2 h3) cw_X6_68 [] rfl rfl rfl rfl (Nat.le_of_ble_eq_true rfl) (Nat.le_of_ble_eq_true rfl) rfl hl.1 rfl (Nat.le_of_ble_eq_true rfl) dX6_variableAt_1 (Nat.le_of_ble_eq_true rfl) (Nat.le_of_ble_eq_true rfl)) (fun _ H locs h => ?_)
  have h : ST g A s [(x, .inr (6, [.ref tx, .ref lk, .ref pa, .int 0, .ref nO, .ref dO, .int 0, .int 0, .int 0]))] H locs := h
  refine lv_if_eq (tgt := 11) hx hb dX6_variableAt_4 (by decide) (fun c_1 => ?_) (fun c_1 => absurd (by decide) c_1)
  refine lv_aload_n hx hb dX6_variableAt_11 rfl (lv_at hl 0 rfl) ?_
  refine lv_bipush (v := (-2)) hx hb dX6_variableAt_12 (by decide) ?_
  refine k_i X h [0] [] (wr := []) rfl rfl rfl (by decide) 0 0 (Nat.le_of_ble_eq_true rfl) (Nat.le_of_ble_eq_true rfl) (k_runV X h (As := [.int (-2)]) (rest := []) (c6_refuse_bad l g H.size x tx lk pa nO dO) cw_X6_54 [0] rfl rfl 0 kl6 rfl rfl rfl (Nat.le_of_ble_eq_true rfl) (Nat.le_of_ble_eq_true rfl) rfl hl.1 rfl (Nat.le_of_ble_eq_true rfl) dX6_variableAt_14 (Nat.le_of_ble_eq_true rfl) (Nat.le_of_ble_eq_true rfl)) (fun _ H locs h => ?_)
  have h : ST g A s [] H locs := h
  refine lv_goto (tgt := 33) hx hb dX6_variableAt_17 (by decide) ?_
  exact r_iret X h hAe () [] rfl rfl 0 0 (Nat.le_of_ble_eq_true rfl) (Nat.le_of_ble_eq_true rfl) rfl dX6_variableAt_33

set_option maxHeartbeats 4000000 in
set_option maxRecDepth 100000 in
/-- variableAt of a fresh object, case lo0 -/
theorem c6_variableAt_lo0 (l : Launch) (g : GE) (sz : Nat) (x : Nat) (tx : Nat) (lk : Nat) (pa : Nat) (nO : Nat) (dO : Nat) (i : Int32) (h4 : i < 0) : Met l yX6_variableAt (.code yX6_variableAt cX6_variableAt 3 (some .int) :: WL) { frames := 1, cells := 0, slots := 0, locals := 21 } (PR g [.ref x, .int 0, .int i] [(x, .inr (6, [.ref tx, .ref lk, .ref pa, .int 0, .ref nO, .ref dO, .int 0, .int 0, .int 0]))] sz) (QI g [(x, .inr (6, [.ref tx, .ref lk, .ref pa, .int 0, .ref nO, .ref dO, .int 0, .int 0, .int 0]))] sz (-2) (fun _ : Unit => [])) 0 0 (va_A [(x, .inr (6, [.ref tx, .ref lk, .ref pa, .int 0, .ref nO, .ref dO, .int 0, .int 0, .int 0]))] sz) := by
  refine k_start (by decide) (Nat.le_of_ble_eq_true rfl) ?_
  intro pp ee s m bb mm cd A H locs hAe X h ls hl
  have X : CX g pp s m mm cd _ cX6_variableAt 3 RX6 "variableAt" (some .int) A := X
  have hx := X.1
  have hb := X.2.1
  have hl : lv_has ls 3 [(0, .ref x), (1, .int 0), (2, .int i)] := hl
  refine lv_iload_n hx hb dX6_variableAt_0 rfl (lv_at hl 1 rfl) ?_
  refine k_i X h [] [0] (wr := [(x, .inr (6, [.ref tx, .ref lk, .ref pa, .int 0, .ref nO, .ref dO, .int 0, .int 0, .int 0]))]) rfl rfl rfl (by decide) 0 0 (Nat.le_of_ble_eq_true rfl) (Nat.le_of_ble_eq_true rfl) (k_runS X h (As := [.int 0]) (rest := []) (c6_isVariable_t l g H.size 0 (by decide) (by decide) (by decide)) cw_X6_68 [] rfl rfl rfl rfl (Nat.le_of_ble_eq_true rfl) (Nat.le_of_ble_eq_true rfl) rfl hl.1 rfl (Nat.le_of_ble_eq_true rfl) dX6_variableAt_1 (Nat.le_of_ble_eq_true rfl) (Nat.le_of_ble_eq_true rfl)) (fun _ H locs h => ?_)
  have h : ST g A s [(x, .inr (6, [.ref tx, .ref lk, .ref pa, .int 0, .ref nO, .ref dO, .int 0, .int 0, .int 0]))] H locs := h
  refine lv_if_eq (tgt := 11) hx hb dX6_variableAt_4 (by decide) (fun c_1 => absurd c_1 (by decide)) (fun c_1 => ?_)
  refine lv_iload_n hx hb dX6_variableAt_7 rfl (lv_at hl 2 rfl) ?_
  refine lv_if_ge (tgt := 20) hx hb dX6_variableAt_8 (by decide) (fun c_2 => absurd c_2 (Int32.not_le.mpr h4)) (fun c_2 => ?_)
  refine lv_aload_n hx hb dX6_variableAt_11 rfl (lv_at hl 0 rfl) ?_
  refine lv_bipush (v := (-2)) hx hb dX6_variableAt_12 (by decide) ?_
  refine k_i X h [0] [] (wr := []) rfl rfl rfl (by decide) 0 0 (Nat.le_of_ble_eq_true rfl) (Nat.le_of_ble_eq_true rfl) (k_runV X h (As := [.int (-2)]) (rest := []) (c6_refuse_bad l g H.size x tx lk pa nO dO) cw_X6_54 [0] rfl rfl 0 kl6 rfl rfl rfl (Nat.le_of_ble_eq_true rfl) (Nat.le_of_ble_eq_true rfl) rfl hl.1 rfl (Nat.le_of_ble_eq_true rfl) dX6_variableAt_14 (Nat.le_of_ble_eq_true rfl) (Nat.le_of_ble_eq_true rfl)) (fun _ H locs h => ?_)
  have h : ST g A s [] H locs := h
  refine lv_goto (tgt := 33) hx hb dX6_variableAt_17 (by decide) ?_
  exact r_iret X h hAe () [] rfl rfl 0 0 (Nat.le_of_ble_eq_true rfl) (Nat.le_of_ble_eq_true rfl) rfl dX6_variableAt_33

set_option maxHeartbeats 4000000 in
set_option maxRecDepth 100000 in
/-- variableAt of a fresh object, case ok0 -/
theorem c6_variableAt_ok0 (l : Launch) (g : GE) (sz : Nat) (x : Nat) (tx : Nat) (lk : Nat) (pa : Nat) (nO : Nat) (dO : Nat) (np : Nat) (nv : Nat) (ns : Nat) (nsh : Nat) (nv0 : Nat) (nv1 : Nat) (nv2 : Nat) (nv3 : Nat) (nv0b : Nat) (i : Int32) (h4 : ¬ i < 0) (h5 : 0 ≤ i) : Met l yX6_variableAt (.code yX6_variableAt cX6_variableAt 3 (some .int) :: WL) { frames := 1, cells := 0, slots := 0, locals := 21 } (PR g [.ref x, .int 0, .int i] [(x, .inr (6, [.ref tx, .ref lk, .ref pa, .int 0, .ref nO, .ref dO, .int 0, .int 0, .int 0])), (nO, .inr (4, [.ref np, .int 0, .ref nv, .ref ns, .int 0, .ref nsh])), (nv, .inl (g.2 4, 4, .inr (.inr (.inr (.inr (va_up (va_up (va_up (va_up (fun _ => none) 0 (some nv0)) 1 (some nv1)) 2 (some nv2)) 3 (some nv3))))))), (nv0, .inr (2, [.int 12, .ref nv0b, .int 0]))] sz) (QI g [(x, .inr (6, [.ref tx, .ref lk, .ref pa, .int 0, .ref nO, .ref dO, .int 0, .int 0, .int 0])), (nO, .inr (4, [.ref np, .int 0, .ref nv, .ref ns, .int 0, .ref nsh])), (nv, .inl (g.2 4, 4, .inr (.inr (.inr (.inr (va_up (va_up (va_up (va_up (fun _ => none) 0 (some nv0)) 1 (some nv1)) 2 (some nv2)) 3 (some nv3))))))), (nv0, .inr (2, [.int 12, .ref nv0b, .int 0]))] sz (-1) (fun _ : Unit => [])) 0 0 (va_A [(x, .inr (6, [.ref tx, .ref lk, .ref pa, .int 0, .ref nO, .ref dO, .int 0, .int 0, .int 0])), (nO, .inr (4, [.ref np, .int 0, .ref nv, .ref ns, .int 0, .ref nsh])), (nv, .inl (g.2 4, 4, .inr (.inr (.inr (.inr (va_up (va_up (va_up (va_up (fun _ => none) 0 (some nv0)) 1 (some nv1)) 2 (some nv2)) 3 (some nv3))))))), (nv0, .inr (2, [.int 12, .ref nv0b, .int 0]))] sz) := by
  refine k_start (by decide) (Nat.le_of_ble_eq_true rfl) ?_
  intro pp ee s m bb mm cd A H locs hAe X h ls hl
  have X : CX g pp s m mm cd _ cX6_variableAt 3 RX6 "variableAt" (some .int) A := X
  have hx := X.1
  have hb := X.2.1
  have hl : lv_has ls 3 [(0, .ref x), (1, .int 0), (2, .int i)] := hl
  refine lv_iload_n hx hb dX6_variableAt_0 rfl (lv_at hl 1 rfl) ?_
  refine k_i X h [] [0, 1, 2, 3] (wr := [(x, .inr (6, [.ref tx, .ref lk, .ref pa, .int 0, .ref nO, .ref dO, .int 0, .int 0, .int 0])), (nO, .inr (4, [.ref np, .int 0, .ref nv, .ref ns, .int 0, .ref nsh])), (nv, .inl (g.2 4, 4, .inr (.inr (.inr (.inr (va_up (va_up (va_up (va_up (fun _ => none) 0 (some nv0)) 1 (some nv1)) 2 (some nv2)) 3 (some nv3))))))), (nv0, .inr (2, [.int 12, .ref nv0b, .int 0]))]) rfl rfl rfl (by decide) 0 0 (Nat.le_of_ble_eq_true rfl) (Nat.le_of_ble_eq_true rfl) (k_runS X h (As := [.int 0]) (rest := []) (c6_isVariable_t l g H.size 0 (by decide) (by decide) (by decide)) cw_X6_68 [] rfl rfl rfl rfl (Nat.le_of_ble_eq_true rfl) (Nat.le_of_ble_eq_true rfl) rfl hl.1 rfl (Nat.le_of_ble_eq_true rfl) dX6_variableAt_1 (Nat.le_of_ble_eq_true rfl) (Nat.le_of_ble_eq_true rfl)) (fun _ H locs h => ?_)
  have h : ST g A s [(x, .inr (6, [.ref tx, .ref lk, .ref pa, .int 0, .ref nO, .ref dO, .int 0, .int 0, .int 0])), (nO, .inr (4, [.ref np, .int 0, .ref nv, .ref ns, .int 0, .ref nsh])), (nv, .inl (g.2 4, 4, .inr (.inr (.inr (.inr (va_up (va_up (va_up (va_up (fun _ => none) 0 (some nv0)) 1 (some nv1)) 2 (some nv2)) 3 (some nv3))))))), (nv0, .inr (2, [.int 12, .ref nv0b, .int 0]))] H locs := h
  refine lv_if_eq (tgt := 11) hx hb dX6_variableAt_4 (by decide) (fun c_1 => absurd c_1 (by decide)) (fun c_1 => ?_)
  refine lv_iload_n hx hb dX6_variableAt_7 rfl (lv_at hl 2 rfl) ?_
  refine lv_if_ge (tgt := 20) hx hb dX6_variableAt_8 (by decide) (fun c_2 => ?_) (fun c_2 => absurd h5 c_2)
  refine lv_aload_n hx hb dX6_variableAt_20 rfl (lv_at hl 0 rfl) ?_
  refine r_get X h kl6 0 4 rfl (by decide) lk_X6_47 rfl dX6_variableAt_21 ?_
  refine r_get X h kl4 1 2 rfl (by decide) lk_X6_80 rfl dX6_variableAt_24 ?_
  refine lv_iload_n hx hb dX6_variableAt_27 rfl (lv_at hl 1 rfl) ?_
  refine r_aald X h 2 4 (v := .ref nv0) rfl rfl (vp_lit (by decide +kernel)) rfl dX6_variableAt_28 ?_
  refine lv_iload_n hx hb dX6_variableAt_29 rfl (lv_at hl 2 rfl) ?_
  refine k_i X h [3] [0, 1, 2] (wr := [(x, .inr (6, [.ref tx, .ref lk, .ref pa, .int 0, .ref nO, .ref dO, .int 0, .int 0, .int 0])), (nO, .inr (4, [.ref np, .int 0, .ref nv, .ref ns, .int 0, .ref nsh])), (nv, .inl (g.2 4, 4, .inr (.inr (.inr (.inr (va_up (va_up (va_up (va_up (fun _ => none) 0 (some nv0)) 1 (some nv1)) 2 (some nv2)) 3 (some nv3)))))))]) rfl rfl rfl (by decide) 0 0 (Nat.le_of_ble_eq_true rfl) (Nat.le_of_ble_eq_true rfl) (k_runV X h (As := [.int i]) (rest := []) (c2_get_none l g H.size nv0 12 nv0b i h4) cw_X6_166 [3] rfl rfl 3 kl2 rfl rfl rfl (Nat.le_of_ble_eq_true rfl) (Nat.le_of_ble_eq_true rfl) rfl hl.1 rfl (Nat.le_of_ble_eq_true rfl) dX6_variableAt_30 (Nat.le_of_ble_eq_true rfl) (Nat.le_of_ble_eq_true rfl)) (fun _ H locs h => ?_)
  have h : ST g A s [(x, .inr (6, [.ref tx, .ref lk, .ref pa, .int 0, .ref nO, .ref dO, .int 0, .int 0, .int 0])), (nO, .inr (4, [.ref np, .int 0, .ref nv, .ref ns, .int 0, .ref nsh])), (nv, .inl (g.2 4, 4, .inr (.inr (.inr (.inr (va_up (va_up (va_up (va_up (fun _ => none) 0 (some nv0)) 1 (some nv1)) 2 (some nv2)) 3 (some nv3))))))), (nv0, .inr (2, [.int 12, .ref nv0b, .int 0]))] H locs := h
  exact r_iret X h hAe () [] rfl rfl 0 0 (Nat.le_of_ble_eq_true rfl) (Nat.le_of_ble_eq_true rfl) rfl dX6_variableAt_33

set_option maxHeartbeats 4000000 in
set_option maxRecDepth 100000 in
/-- variableAt of a fresh object, case lo1 -/
theorem c6_variableAt_lo1 (l : Launch) (g : GE) (sz : Nat) (x : Nat) (tx : Nat) (lk : Nat) (pa : Nat) (nO : Nat) (dO : Nat) (i : Int32) (h4 : i < 0) : Met l yX6_variableAt (.code yX6_variableAt cX6_variableAt 3 (some .int) :: WL) { frames := 1, cells := 0, slots := 0, locals := 21 } (PR g [.ref x, .int 1, .int i] [(x, .inr (6, [.ref tx, .ref lk, .ref pa, .int 0, .ref nO, .ref dO, .int 0, .int 0, .int 0]))] sz) (QI g [(x, .inr (6, [.ref tx, .ref lk, .ref pa, .int 0, .ref nO, .ref dO, .int 0, .int 0, .int 0]))] sz (-2) (fun _ : Unit => [])) 0 0 (va_A [(x, .inr (6, [.ref tx, .ref lk, .ref pa, .int 0, .ref nO, .ref dO, .int 0, .int 0, .int 0]))] sz) := by
  refine k_start (by decide) (Nat.le_of_ble_eq_true rfl) ?_
  intro pp ee s m bb mm cd A H locs hAe X h ls hl
  have X : CX g pp s m mm cd _ cX6_variableAt 3 RX6 "variableAt" (some .int) A := X
  have hx := X.1
  have hb := X.2.1
  have hl : lv_has ls 3 [(0, .ref x), (1, .int 1), (2, .int i)] := hl
  refine lv_iload_n hx hb dX6_variableAt_0 rfl (lv_at hl 1 rfl) ?_
  refine k_i X h [] [0] (wr := [(x, .inr (6, [.ref tx, .ref lk, .ref pa, .int 0, .ref nO, .ref dO, .int 0, .int 0, .int 0]))]) rfl rfl rfl (by decide) 0 0 (Nat.le_of_ble_eq_true rfl) (Nat.le_of_ble_eq_true rfl) (k_runS X h (As := [.int 1]) (rest := []) (c6_isVariable_t l g H.size 1 (by decide) (by decide) (by decide)) cw_X6_68 [] rfl rfl rfl rfl (Nat.le_of_ble_eq_true rfl) (Nat.le_of_ble_eq_true rfl) rfl hl.1 rfl (Nat.le_of_ble_eq_true rfl) dX6_variableAt_1 (Nat.le_of_ble_eq_true rfl) (Nat.le_of_ble_eq_true rfl)) (fun _ H locs h => ?_)
  have h : ST g A s [(x, .inr (6, [.ref tx, .ref lk, .ref pa, .int 0, .ref nO, .ref dO, .int 0, .int 0, .int 0]))] H locs := h
  refine lv_if_eq (tgt := 11) hx hb dX6_variableAt_4 (by decide) (fun c_1 => absurd c_1 (by decide)) (fun c_1 => ?_)
  refine lv_iload_n hx hb dX6_variableAt_7 rfl (lv_at hl 2 rfl) ?_
  refine lv_if_ge (tgt := 20) hx hb dX6_variableAt_8 (by decide) (fun c_2 => absurd c_2 (Int32.not_le.mpr h4)) (fun c_2 => ?_)
  refine lv_aload_n hx hb dX6_variableAt_11 rfl (lv_at hl 0 rfl) ?_
  refine lv_bipush (v := (-2)) hx hb dX6_variableAt_12 (by decide) ?_
  refine k_i X h [0] [] (wr := []) rfl rfl rfl (by decide) 0 0 (Nat.le_of_ble_eq_true rfl) (Nat.le_of_ble_eq_true rfl) (k_runV X h (As := [.int (-2)]) (rest := []) (c6_refuse_bad l g H.size x tx lk pa nO dO) cw_X6_54 [0] rfl rfl 0 kl6 rfl rfl rfl (Nat.le_of_ble_eq_true rfl) (Nat.le_of_ble_eq_true rfl) rfl hl.1 rfl (Nat.le_of_ble_eq_true rfl) dX6_variableAt_14 (Nat.le_of_ble_eq_true rfl) (Nat.le_of_ble_eq_true rfl)) (fun _ H locs h => ?_)
  have h : ST g A s [] H locs := h
  refine lv_goto (tgt := 33) hx hb dX6_variableAt_17 (by decide) ?_
  exact r_iret X h hAe () [] rfl rfl 0 0 (Nat.le_of_ble_eq_true rfl) (Nat.le_of_ble_eq_true rfl) rfl dX6_variableAt_33

set_option maxHeartbeats 4000000 in
set_option maxRecDepth 100000 in
/-- variableAt of a fresh object, case ok1 -/
theorem c6_variableAt_ok1 (l : Launch) (g : GE) (sz : Nat) (x : Nat) (tx : Nat) (lk : Nat) (pa : Nat) (nO : Nat) (dO : Nat) (np : Nat) (nv : Nat) (ns : Nat) (nsh : Nat) (nv0 : Nat) (nv1 : Nat) (nv2 : Nat) (nv3 : Nat) (nv1b : Nat) (i : Int32) (h4 : ¬ i < 0) (h5 : 0 ≤ i) : Met l yX6_variableAt (.code yX6_variableAt cX6_variableAt 3 (some .int) :: WL) { frames := 1, cells := 0, slots := 0, locals := 21 } (PR g [.ref x, .int 1, .int i] [(x, .inr (6, [.ref tx, .ref lk, .ref pa, .int 0, .ref nO, .ref dO, .int 0, .int 0, .int 0])), (nO, .inr (4, [.ref np, .int 0, .ref nv, .ref ns, .int 0, .ref nsh])), (nv, .inl (g.2 4, 4, .inr (.inr (.inr (.inr (va_up (va_up (va_up (va_up (fun _ => none) 0 (some nv0)) 1 (some nv1)) 2 (some nv2)) 3 (some nv3))))))), (nv1, .inr (2, [.int 12, .ref nv1b, .int 0]))] sz) (QI g [(x, .inr (6, [.ref tx, .ref lk, .ref pa, .int 0, .ref nO, .ref dO, .int 0, .int 0, .int 0])), (nO, .inr (4, [.ref np, .int 0, .ref nv, .ref ns, .int 0, .ref nsh])), (nv, .inl (g.2 4, 4, .inr (.inr (.inr (.inr (va_up (va_up (va_up (va_up (fun _ => none) 0 (some nv0)) 1 (some nv1)) 2 (some nv2)) 3 (some nv3))))))), (nv1, .inr (2, [.int 12, .ref nv1b, .int 0]))] sz (-1) (fun _ : Unit => [])) 0 0 (va_A [(x, .inr (6, [.ref tx, .ref lk, .ref pa, .int 0, .ref nO, .ref dO, .int 0, .int 0, .int 0])), (nO, .inr (4, [.ref np, .int 0, .ref nv, .ref ns, .int 0, .ref nsh])), (nv, .inl (g.2 4, 4, .inr (.inr (.inr (.inr (va_up (va_up (va_up (va_up (fun _ => none) 0 (some nv0)) 1 (some nv1)) 2 (some nv2)) 3 (some nv3))))))), (nv1, .inr (2, [.int 12, .ref nv1b, .int 0]))] sz) := by
  refine k_start (by decide) (Nat.le_of_ble_eq_true rfl) ?_
  intro pp ee s m bb mm cd A H locs hAe X h ls hl
  have X : CX g pp s m mm cd _ cX6_variableAt 3 RX6 "variableAt" (some .int) A := X
  have hx := X.1
  have hb := X.2.1
  have hl : lv_has ls 3 [(0, .ref x), (1, .int 1), (2, .int i)] := hl
  refine lv_iload_n hx hb dX6_variableAt_0 rfl (lv_at hl 1 rfl) ?_
  refine k_i X h [] [0, 1, 2, 3] (wr := [(x, .inr (6, [.ref tx, .ref lk, .ref pa, .int 0, .ref nO, .ref dO, .int 0, .int 0, .int 0])), (nO, .inr (4, [.ref np, .int 0, .ref nv, .ref ns, .int 0, .ref nsh])), (nv, .inl (g.2 4, 4, .inr (.inr (.inr (.inr (va_up (va_up (va_up (va_up (fun _ => none) 0 (some nv0)) 1 (some nv1)) 2 (some nv2)) 3 (some nv3))))))), (nv1, .inr (2, [.int 12, .ref nv1b, .int 0]))]) rfl rfl rfl (by decide) 0 0 (Nat.le_of_ble_eq_true rfl) (Nat.le_of_ble_eq_true rfl) (k_runS X h (As := [.int 1]) (rest := []) (c6_isVariable_t l g H.size 1 (by decide) (by decide) (by decide)) cw_X6_68 [] rfl rfl rfl rfl (Nat.le_of_ble_eq_true rfl) (Nat.le_of_ble_eq_true rfl) rfl hl.1 rfl (Nat.le_of_ble_eq_true rfl) dX6_variableAt_1 (Nat.le_of_ble_eq_true rfl) (Nat.le_of_ble_eq_true rfl)) (fun _ H locs h => ?_)
  have h : ST g A s [(x, .inr (6, [.ref tx, .ref lk, .ref pa, .int 0, .ref nO, .ref dO, .int 0, .int 0, .int 0])), (nO, .inr (4, [.ref np, .int 0, .ref nv, .ref ns, .int 0, .ref nsh])), (nv, .inl (g.2 4, 4, .inr (.inr (.inr (.inr (va_up (va_up (va_up (va_up (fun _ => none) 0 (some nv0)) 1 (some nv1)) 2 (some nv2)) 3 (some nv3))))))), (nv1, .inr (2, [.int 12, .ref nv1b, .int 0]))] H locs := h
  refine lv_if_eq (tgt := 11) hx hb dX6_variableAt_4 (by decide) (fun c_1 => absurd c_1 (by decide)) (fun c_1 => ?_)
  refine lv_iload_n hx hb dX6_variableAt_7 rfl (lv_at hl 2 rfl) ?_
  refine lv_if_ge (tgt := 20) hx hb dX6_variableAt_8 (by decide) (fun c_2 => ?_) (fun c_2 => absurd h5 c_2)
  refine lv_aload_n hx hb dX6_variableAt_20 rfl (lv_at hl 0 rfl) ?_
  refine r_get X h kl6 0 4 rfl (by decide) lk_X6_47 rfl dX6_variableAt_21 ?_
  refine r_get X h kl4 1 2 rfl (by decide) lk_X6_80 rfl dX6_variableAt_24 ?_
  refine lv_iload_n hx hb dX6_variableAt_27 rfl (lv_at hl 1 rfl) ?_
  refine r_aald X h 2 4 (v := .ref nv1) rfl rfl (vp_lit (by decide +kernel)) rfl dX6_variableAt_28 ?_
  refine lv_iload_n hx hb dX6_variableAt_29 rfl (lv_at hl 2 rfl) ?_
  refine k_i X h [3] [0, 1, 2] (wr := [(x, .inr (6, [.ref tx, .ref lk, .ref pa, .int 0, .ref nO, .ref dO, .int 0, .int 0, .int 0])), (nO, .inr (4, [.ref np, .int 0, .ref nv, .ref ns, .int 0, .ref nsh])), (nv, .inl (g.2 4, 4, .inr (.inr (.inr (.inr (va_up (va_up (va_up (va_up (fun _ => none) 0 (some nv0)) 1 (some nv1)) 2 (some nv2)) 3 (some nv3)))))))]) rfl rfl rfl (by decide) 0 0 (Nat.le_of_ble_eq_true rfl) (Nat.le_of_ble_eq_true rfl) (k_runV X h (As := [.int i]) (rest := []) (c2_get_none l g H.size nv1 12 nv1b i h4) cw_X6_166 [3] rfl rfl 3 kl2 rfl rfl rfl (Nat.le_of_ble_eq_true rfl) (Nat.le_of_ble_eq_true rfl) rfl hl.1 rfl (Nat.le_of_ble_eq_true rfl) dX6_variableAt_30 (Nat.le_of_ble_eq_true rfl) (Nat.le_of_ble_eq_true rfl)) (fun _ H locs h => ?_)
  have h : ST g A s [(x, .inr (6, [.ref tx, .ref lk, .ref pa, .int 0, .ref nO, .ref dO, .int 0, .int 0, .int 0])), (nO, .inr (4, [.ref np, .int 0, .ref nv, .ref ns, .int 0, .ref nsh])), (nv, .inl (g.2 4, 4, .inr (.inr (.inr (.inr (va_up (va_up (va_up (va_up (fun _ => none) 0 (some nv0)) 1 (some nv1)) 2 (some nv2)) 3 (some nv3))))))), (nv1, .inr (2, [.int 12, .ref nv1b, .int 0]))] H locs := h
  exact r_iret X h hAe () [] rfl rfl 0 0 (Nat.le_of_ble_eq_true rfl) (Nat.le_of_ble_eq_true rfl) rfl dX6_variableAt_33

set_option maxHeartbeats 4000000 in
set_option maxRecDepth 100000 in
/-- variableAt of a fresh object, case lo2 -/
theorem c6_variableAt_lo2 (l : Launch) (g : GE) (sz : Nat) (x : Nat) (tx : Nat) (lk : Nat) (pa : Nat) (nO : Nat) (dO : Nat) (i : Int32) (h4 : i < 0) : Met l yX6_variableAt (.code yX6_variableAt cX6_variableAt 3 (some .int) :: WL) { frames := 1, cells := 0, slots := 0, locals := 21 } (PR g [.ref x, .int 2, .int i] [(x, .inr (6, [.ref tx, .ref lk, .ref pa, .int 0, .ref nO, .ref dO, .int 0, .int 0, .int 0]))] sz) (QI g [(x, .inr (6, [.ref tx, .ref lk, .ref pa, .int 0, .ref nO, .ref dO, .int 0, .int 0, .int 0]))] sz (-2) (fun _ : Unit => [])) 0 0 (va_A [(x, .inr (6, [.ref tx, .ref lk, .ref pa, .int 0, .ref nO, .ref dO, .int 0, .int 0, .int 0]))] sz) := by
  refine k_start (by decide) (Nat.le_of_ble_eq_true rfl) ?_
  intro pp ee s m bb mm cd A H locs hAe X h ls hl
  have X : CX g pp s m mm cd _ cX6_variableAt 3 RX6 "variableAt" (some .int) A := X
  have hx := X.1
  have hb := X.2.1
  have hl : lv_has ls 3 [(0, .ref x), (1, .int 2), (2, .int i)] := hl
  refine lv_iload_n hx hb dX6_variableAt_0 rfl (lv_at hl 1 rfl) ?_
  refine k_i X h [] [0] (wr := [(x, .inr (6, [.ref tx, .ref lk, .ref pa, .int 0, .ref nO, .ref dO, .int 0, .int 0, .int 0]))]) rfl rfl rfl (by decide) 0 0 (Nat.le_of_ble_eq_true rfl) (Nat.le_of_ble_eq_true rfl) (k_runS X h (As := [.int 2]) (rest := []) (c6_isVariable_t l g H.size 2 (by decide) (by decide) (by decide)) cw_X6_68 [] rfl rfl rfl rfl (Nat.le_of_ble_eq_true rfl) (Nat.le_of_ble_eq_true rfl) rfl hl.1 rfl (Nat.le_of_ble_eq_true rfl) dX6_variableAt_1 (Nat.le_of_ble_eq_true rfl) (Nat.le_of_ble_eq_true rfl)) (fun _ H locs h => ?_)
  have h : ST g A s [(x, .inr (6, [.ref tx, .ref lk, .ref pa, .int 0, .ref nO, .ref dO, .int 0, .int 0, .int 0]))] H locs := h
  refine lv_if_eq (tgt := 11) hx hb dX6_variableAt_4 (by decide) (fun c_1 => absurd c_1 (by decide)) (fun c_1 => ?_)
  refine lv_iload_n hx hb dX6_variableAt_7 rfl (lv_at hl 2 rfl) ?_
  refine lv_if_ge (tgt := 20) hx hb dX6_variableAt_8 (by decide) (fun c_2 => absurd c_2 (Int32.not_le.mpr h4)) (fun c_2 => ?_)
  refine lv_aload_n hx hb dX6_variableAt_11 rfl (lv_at hl 0 rfl) ?_
  refine lv_bipush (v := (-2)) hx hb dX6_variableAt_12 (by decide) ?_
  refine k_i X h [0] [] (wr := []) rfl rfl rfl (by decide) 0 0 (Nat.le_of_ble_eq_true rfl) (Nat.le_of_ble_eq_true rfl) (k_runV X h (As := [.int (-2)]) (rest := []) (c6_refuse_bad l g H.size x tx lk pa nO dO) cw_X6_54 [0] rfl rfl 0 kl6 rfl rfl rfl (Nat.le_of_ble_eq_true rfl) (Nat.le_of_ble_eq_true rfl) rfl hl.1 rfl (Nat.le_of_ble_eq_true rfl) dX6_variableAt_14 (Nat.le_of_ble_eq_true rfl) (Nat.le_of_ble_eq_true rfl)) (fun _ H locs h => ?_)
  have h : ST g A s [] H locs := h
  refine lv_goto (tgt := 33) hx hb dX6_variableAt_17 (by decide) ?_
  exact r_iret X h hAe () [] rfl rfl 0 0 (Nat.le_of_ble_eq_true rfl) (Nat.le_of_ble_eq_true rfl) rfl dX6_variableAt_33

set_option maxHeartbeats 4000000 in
set_option maxRecDepth 100000 in
/-- variableAt of a fresh object, case ok2 -/
theorem c6_variableAt_ok2 (l : Launch) (g : GE) (sz : Nat) (x : Nat) (tx : Nat) (lk : Nat) (pa : Nat) (nO : Nat) (dO : Nat) (np : Nat) (nv : Nat) (ns : Nat) (nsh : Nat) (nv0 : Nat) (nv1 : Nat) (nv2 : Nat) (nv3 : Nat) (nv2b : Nat) (i : Int32) (h4 : ¬ i < 0) (h5 : 0 ≤ i) : Met l yX6_variableAt (.code yX6_variableAt cX6_variableAt 3 (some .int) :: WL) { frames := 1, cells := 0, slots := 0, locals := 21 } (PR g [.ref x, .int 2, .int i] [(x, .inr (6, [.ref tx, .ref lk, .ref pa, .int 0, .ref nO, .ref dO, .int 0, .int 0, .int 0])), (nO, .inr (4, [.ref np, .int 0, .ref nv, .ref ns, .int 0, .ref nsh])), (nv, .inl (g.2 4, 4, .inr (.inr (.inr (.inr (va_up (va_up (va_up (va_up (fun _ => none) 0 (some nv0)) 1 (some nv1)) 2 (some nv2)) 3 (some nv3))))))), (nv2, .inr (2, [.int 12, .ref nv2b, .int 0]))] sz) (QI g [(x, .inr (6, [.ref tx, .ref lk, .ref pa, .int 0, .ref nO, .ref dO, .int 0, .int 0, .int 0])), (nO, .inr (4, [.ref np, .int 0, .ref nv, .ref ns, .int 0, .ref nsh])), (nv, .inl (g.2 4, 4, .inr (.inr (.inr (.inr (va_up (va_up (va_up (va_up (fun _ => none) 0 (some nv0)) 1 (some nv1)) 2 (some nv2)) 3 (some nv3))))))), (nv2, .inr (2, [.int 12, .ref nv2b, .int 0]))] sz (-1) (fun _ : Unit => [])) 0 0 (va_A [(x, .inr (6, [.ref tx, .ref lk, .ref pa, .int 0, .ref nO, .ref dO, .int 0, .int 0, .int 0])), (nO, .inr (4, [.ref np, .int 0, .ref nv, .ref ns, .int 0, .ref nsh])), (nv, .inl (g.2 4, 4, .inr (.inr (.inr (.inr (va_up (va_up (va_up (va_up (fun _ => none) 0 (some nv0)) 1 (some nv1)) 2 (some nv2)) 3 (some nv3))))))), (nv2, .inr (2, [.int 12, .ref nv2b, .int 0]))] sz) := by
  refine k_start (by decide) (Nat.le_of_ble_eq_true rfl) ?_
  intro pp ee s m bb mm cd A H locs hAe X h ls hl
  have X : CX g pp s m mm cd _ cX6_variableAt 3 RX6 "variableAt" (some .int) A := X
  have hx := X.1
  have hb := X.2.1
  have hl : lv_has ls 3 [(0, .ref x), (1, .int 2), (2, .int i)] := hl
  refine lv_iload_n hx hb dX6_variableAt_0 rfl (lv_at hl 1 rfl) ?_
  refine k_i X h [] [0, 1, 2, 3] (wr := [(x, .inr (6, [.ref tx, .ref lk, .ref pa, .int 0, .ref nO, .ref dO, .int 0, .int 0, .int 0])), (nO, .inr (4, [.ref np, .int 0, .ref nv, .ref ns, .int 0, .ref nsh])), (nv, .inl (g.2 4, 4, .inr (.inr (.inr (.inr (va_up (va_up (va_up (va_up (fun _ => none) 0 (some nv0)) 1 (some nv1)) 2 (some nv2)) 3 (some nv3))))))), (nv2, .inr (2, [.int 12, .ref nv2b, .int 0]))]) rfl rfl rfl (by decide) 0 0 (Nat.le_of_ble_eq_true rfl) (Nat.le_of_ble_eq_true rfl) (k_runS X h (As := [.int 2]) (rest := []) (c6_isVariable_t l g H.size 2 (by decide) (by decide) (by decide)) cw_X6_68 [] rfl rfl rfl rfl (Nat.le_of_ble_eq_true rfl) (Nat.le_of_ble_eq_true rfl) rfl hl.1 rfl (Nat.le_of_ble_eq_true rfl) dX6_variableAt_1 (Nat.le_of_ble_eq_true rfl) (Nat.le_of_ble_eq_true rfl)) (fun _ H locs h => ?_)
  have h : ST g A s [(x, .inr (6, [.ref tx, .ref lk, .ref pa, .int 0, .ref nO, .ref dO, .int 0, .int 0, .int 0])), (nO, .inr (4, [.ref np, .int 0, .ref nv, .ref ns, .int 0, .ref nsh])), (nv, .inl (g.2 4, 4, .inr (.inr (.inr (.inr (va_up (va_up (va_up (va_up (fun _ => none) 0 (some nv0)) 1 (some nv1)) 2 (some nv2)) 3 (some nv3))))))), (nv2, .inr (2, [.int 12, .ref nv2b, .int 0]))] H locs := h
  refine lv_if_eq (tgt := 11) hx hb dX6_variableAt_4 (by decide) (fun c_1 => absurd c_1 (by decide)) (fun c_1 => ?_)
  refine lv_iload_n hx hb dX6_variableAt_7 rfl (lv_at hl 2 rfl) ?_
  refine lv_if_ge (tgt := 20) hx hb dX6_variableAt_8 (by decide) (fun c_2 => ?_) (fun c_2 => absurd h5 c_2)
  refine lv_aload_n hx hb dX6_variableAt_20 rfl (lv_at hl 0 rfl) ?_
  refine r_get X h kl6 0 4 rfl (by decide) lk_X6_47 rfl dX6_variableAt_21 ?_
  refine r_get X h kl4 1 2 rfl (by decide) lk_X6_80 rfl dX6_variableAt_24 ?_
  refine lv_iload_n hx hb dX6_variableAt_27 rfl (lv_at hl 1 rfl) ?_
  refine r_aald X h 2 4 (v := .ref nv2) rfl rfl (vp_lit (by decide +kernel)) rfl dX6_variableAt_28 ?_
  refine lv_iload_n hx hb dX6_variableAt_29 rfl (lv_at hl 2 rfl) ?_
  refine k_i X h [3] [0, 1, 2] (wr := [(x, .inr (6, [.ref tx, .ref lk, .ref pa, .int 0, .ref nO, .ref dO, .int 0, .int 0, .int 0])), (nO, .inr (4, [.ref np, .int 0, .ref nv, .ref ns, .int 0, .ref nsh])), (nv, .inl (g.2 4, 4, .inr (.inr (.inr (.inr (va_up (va_up (va_up (va_up (fun _ => none) 0 (some nv0)) 1 (some nv1)) 2 (some nv2)) 3 (some nv3)))))))]) rfl rfl rfl (by decide) 0 0 (Nat.le_of_ble_eq_true rfl) (Nat.le_of_ble_eq_true rfl) (k_runV X h (As := [.int i]) (rest := []) (c2_get_none l g H.size nv2 12 nv2b i h4) cw_X6_166 [3] rfl rfl 3 kl2 rfl rfl rfl (Nat.le_of_ble_eq_true rfl) (Nat.le_of_ble_eq_true rfl) rfl hl.1 rfl (Nat.le_of_ble_eq_true rfl) dX6_variableAt_30 (Nat.le_of_ble_eq_true rfl) (Nat.le_of_ble_eq_true rfl)) (fun _ H locs h => ?_)
  have h : ST g A s [(x, .inr (6, [.ref tx, .ref lk, .ref pa, .int 0, .ref nO, .ref dO, .int 0, .int 0, .int 0])), (nO, .inr (4, [.ref np, .int 0, .ref nv, .ref ns, .int 0, .ref nsh])), (nv, .inl (g.2 4, 4, .inr (.inr (.inr (.inr (va_up (va_up (va_up (va_up (fun _ => none) 0 (some nv0)) 1 (some nv1)) 2 (some nv2)) 3 (some nv3))))))), (nv2, .inr (2, [.int 12, .ref nv2b, .int 0]))] H locs := h
  exact r_iret X h hAe () [] rfl rfl 0 0 (Nat.le_of_ble_eq_true rfl) (Nat.le_of_ble_eq_true rfl) rfl dX6_variableAt_33

set_option maxHeartbeats 4000000 in
set_option maxRecDepth 100000 in
/-- variableAt of a fresh object, case lo3 -/
theorem c6_variableAt_lo3 (l : Launch) (g : GE) (sz : Nat) (x : Nat) (tx : Nat) (lk : Nat) (pa : Nat) (nO : Nat) (dO : Nat) (i : Int32) (h4 : i < 0) : Met l yX6_variableAt (.code yX6_variableAt cX6_variableAt 3 (some .int) :: WL) { frames := 1, cells := 0, slots := 0, locals := 21 } (PR g [.ref x, .int 3, .int i] [(x, .inr (6, [.ref tx, .ref lk, .ref pa, .int 0, .ref nO, .ref dO, .int 0, .int 0, .int 0]))] sz) (QI g [(x, .inr (6, [.ref tx, .ref lk, .ref pa, .int 0, .ref nO, .ref dO, .int 0, .int 0, .int 0]))] sz (-2) (fun _ : Unit => [])) 0 0 (va_A [(x, .inr (6, [.ref tx, .ref lk, .ref pa, .int 0, .ref nO, .ref dO, .int 0, .int 0, .int 0]))] sz) := by
  refine k_start (by decide) (Nat.le_of_ble_eq_true rfl) ?_
  intro pp ee s m bb mm cd A H locs hAe X h ls hl
  have X : CX g pp s m mm cd _ cX6_variableAt 3 RX6 "variableAt" (some .int) A := X
  have hx := X.1
  have hb := X.2.1
  have hl : lv_has ls 3 [(0, .ref x), (1, .int 3), (2, .int i)] := hl
  refine lv_iload_n hx hb dX6_variableAt_0 rfl (lv_at hl 1 rfl) ?_
  refine k_i X h [] [0] (wr := [(x, .inr (6, [.ref tx, .ref lk, .ref pa, .int 0, .ref nO, .ref dO, .int 0, .int 0, .int 0]))]) rfl rfl rfl (by decide) 0 0 (Nat.le_of_ble_eq_true rfl) (Nat.le_of_ble_eq_true rfl) (k_runS X h (As := [.int 3]) (rest := []) (c6_isVariable_t l g H.size 3 (by decide) (by decide) (by decide)) cw_X6_68 [] rfl rfl rfl rfl (Nat.le_of_ble_eq_true rfl) (Nat.le_of_ble_eq_true rfl) rfl hl.1 rfl (Nat.le_of_ble_eq_true rfl) dX6_variableAt_1 (Nat.le_of_ble_eq_true rfl) (Nat.le_of_ble_eq_true rfl)) (fun _ H locs h => ?_)
  have h : ST g A s [(x, .inr (6, [.ref tx, .ref lk, .ref pa, .int 0, .ref nO, .ref dO, .int 0, .int 0, .int 0]))] H locs := h
  refine lv_if_eq (tgt := 11) hx hb dX6_variableAt_4 (by decide) (fun c_1 => absurd c_1 (by decide)) (fun c_1 => ?_)
  refine lv_iload_n hx hb dX6_variableAt_7 rfl (lv_at hl 2 rfl) ?_
  refine lv_if_ge (tgt := 20) hx hb dX6_variableAt_8 (by decide) (fun c_2 => absurd c_2 (Int32.not_le.mpr h4)) (fun c_2 => ?_)
  refine lv_aload_n hx hb dX6_variableAt_11 rfl (lv_at hl 0 rfl) ?_
  refine lv_bipush (v := (-2)) hx hb dX6_variableAt_12 (by decide) ?_
  refine k_i X h [0] [] (wr := []) rfl rfl rfl (by decide) 0 0 (Nat.le_of_ble_eq_true rfl) (Nat.le_of_ble_eq_true rfl) (k_runV X h (As := [.int (-2)]) (rest := []) (c6_refuse_bad l g H.size x tx lk pa nO dO) cw_X6_54 [0] rfl rfl 0 kl6 rfl rfl rfl (Nat.le_of_ble_eq_true rfl) (Nat.le_of_ble_eq_true rfl) rfl hl.1 rfl (Nat.le_of_ble_eq_true rfl) dX6_variableAt_14 (Nat.le_of_ble_eq_true rfl) (Nat.le_of_ble_eq_true rfl)) (fun _ H locs h => ?_)
  have h : ST g A s [] H locs := h
  refine lv_goto (tgt := 33) hx hb dX6_variableAt_17 (by decide) ?_
  exact r_iret X h hAe () [] rfl rfl 0 0 (Nat.le_of_ble_eq_true rfl) (Nat.le_of_ble_eq_true rfl) rfl dX6_variableAt_33

set_option maxHeartbeats 4000000 in
set_option maxRecDepth 100000 in
/-- variableAt of a fresh object, case ok3 -/
theorem c6_variableAt_ok3 (l : Launch) (g : GE) (sz : Nat) (x : Nat) (tx : Nat) (lk : Nat) (pa : Nat) (nO : Nat) (dO : Nat) (np : Nat) (nv : Nat) (ns : Nat) (nsh : Nat) (nv0 : Nat) (nv1 : Nat) (nv2 : Nat) (nv3 : Nat) (nv3b : Nat) (i : Int32) (h4 : ¬ i < 0) (h5 : 0 ≤ i) : Met l yX6_variableAt (.code yX6_variableAt cX6_variableAt 3 (some .int) :: WL) { frames := 1, cells := 0, slots := 0, locals := 21 } (PR g [.ref x, .int 3, .int i] [(x, .inr (6, [.ref tx, .ref lk, .ref pa, .int 0, .ref nO, .ref dO, .int 0, .int 0, .int 0])), (nO, .inr (4, [.ref np, .int 0, .ref nv, .ref ns, .int 0, .ref nsh])), (nv, .inl (g.2 4, 4, .inr (.inr (.inr (.inr (va_up (va_up (va_up (va_up (fun _ => none) 0 (some nv0)) 1 (some nv1)) 2 (some nv2)) 3 (some nv3))))))), (nv3, .inr (2, [.int 12, .ref nv3b, .int 0]))] sz) (QI g [(x, .inr (6, [.ref tx, .ref lk, .ref pa, .int 0, .ref nO, .ref dO, .int 0, .int 0, .int 0])), (nO, .inr (4, [.ref np, .int 0, .ref nv, .ref ns, .int 0, .ref nsh])), (nv, .inl (g.2 4, 4, .inr (.inr (.inr (.inr (va_up (va_up (va_up (va_up (fun _ => none) 0 (some nv0)) 1 (some nv1)) 2 (some nv2)) 3 (some nv3))))))), (nv3, .inr (2, [.int 12, .ref nv3b, .int 0]))] sz (-1) (fun _ : Unit => [])) 0 0 (va_A [(x, .inr (6, [.ref tx, .ref lk, .ref pa, .int 0, .ref nO, .ref dO, .int 0, .int 0, .int 0])), (nO, .inr (4, [.ref np, .int 0, .ref nv, .ref ns, .int 0, .ref nsh])), (nv, .inl (g.2 4, 4, .inr (.inr (.inr (.inr (va_up (va_up (va_up (va_up (fun _ => none) 0 (some nv0)) 1 (some nv1)) 2 (some nv2)) 3 (some nv3))))))), (nv3, .inr (2, [.int 12, .ref nv3b, .int 0]))] sz) := by
  refine k_start (by decide) (Nat.le_of_ble_eq_true rfl) ?_
  intro pp ee s m bb mm cd A H locs hAe X h ls hl
  have X : CX g pp s m mm cd _ cX6_variableAt 3 RX6 "variableAt" (some .int) A := X
  have hx := X.1
  have hb := X.2.1
  have hl : lv_has ls 3 [(0, .ref x), (1, .int 3), (2, .int i)] := hl
  refine lv_iload_n hx hb dX6_variableAt_0 rfl (lv_at hl 1 rfl) ?_
  refine k_i X h [] [0, 1, 2, 3] (wr := [(x, .inr (6, [.ref tx, .ref lk, .ref pa, .int 0, .ref nO, .ref dO, .int 0, .int 0, .int 0])), (nO, .inr (4, [.ref np, .int 0, .ref nv, .ref ns, .int 0, .ref nsh])), (nv, .inl (g.2 4, 4, .inr (.inr (.inr (.inr (va_up (va_up (va_up (va_up (fun _ => none) 0 (some nv0)) 1 (some nv1)) 2 (some nv2)) 3 (some nv3))))))), (nv3, .inr (2, [.int 12, .ref nv3b, .int 0]))]) rfl rfl rfl (by decide) 0 0 (Nat.le_of_ble_eq_true rfl) (Nat.le_of_ble_eq_true rfl) (k_runS X h (As := [.int 3]) (rest := []) (c6_isVariable_t l g H.size 3 (by decide) (by decide) (by decide)) cw_X6_68 [] rfl rfl rfl rfl (Nat.le_of_ble_eq_true rfl) (Nat.le_of_ble_eq_true rfl) rfl hl.1 rfl (Nat.le_of_ble_eq_true rfl) dX6_variableAt_1 (Nat.le_of_ble_eq_true rfl) (Nat.le_of_ble_eq_true rfl)) (fun _ H locs h => ?_)
  have h : ST g A s [(x, .inr (6, [.ref tx, .ref lk, .ref pa, .int 0, .ref nO, .ref dO, .int 0, .int 0, .int 0])), (nO, .inr (4, [.ref np, .int 0, .ref nv, .ref ns, .int 0, .ref nsh])), (nv, .inl (g.2 4, 4, .inr (.inr (.inr (.inr (va_up (va_up (va_up (va_up (fun _ => none) 0 (some nv0)) 1 (some nv1)) 2 (some nv2)) 3 (some nv3))))))), (nv3, .inr (2, [.int 12, .ref nv3b, .int 0]))] H locs := h
  refine lv_if_eq (tgt := 11) hx hb dX6_variableAt_4 (by decide) (fun c_1 => absurd c_1 (by decide)) (fun c_1 => ?_)
  refine lv_iload_n hx hb dX6_variableAt_7 rfl (lv_at hl 2 rfl) ?_
  refine lv_if_ge (tgt := 20) hx hb dX6_variableAt_8 (by decide) (fun c_2 => ?_) (fun c_2 => absurd h5 c_2)
  refine lv_aload_n hx hb dX6_variableAt_20 rfl (lv_at hl 0 rfl) ?_
  refine r_get X h kl6 0 4 rfl (by decide) lk_X6_47 rfl dX6_variableAt_21 ?_
  refine r_get X h kl4 1 2 rfl (by decide) lk_X6_80 rfl dX6_variableAt_24 ?_
  refine lv_iload_n hx hb dX6_variableAt_27 rfl (lv_at hl 1 rfl) ?_
  refine r_aald X h 2 4 (v := .ref nv3) rfl rfl (vp_lit (by decide +kernel)) rfl dX6_variableAt_28 ?_
  refine lv_iload_n hx hb dX6_variableAt_29 rfl (lv_at hl 2 rfl) ?_
  refine k_i X h [3] [0, 1, 2] (wr := [(x, .inr (6, [.ref tx, .ref lk, .ref pa, .int 0, .ref nO, .ref dO, .int 0, .int 0, .int 0])), (nO, .inr (4, [.ref np, .int 0, .ref nv, .ref ns, .int 0, .ref nsh])), (nv, .inl (g.2 4, 4, .inr (.inr (.inr (.inr (va_up (va_up (va_up (va_up (fun _ => none) 0 (some nv0)) 1 (some nv1)) 2 (some nv2)) 3 (some nv3)))))))]) rfl rfl rfl (by decide) 0 0 (Nat.le_of_ble_eq_true rfl) (Nat.le_of_ble_eq_true rfl) (k_runV X h (As := [.int i]) (rest := []) (c2_get_none l g H.size nv3 12 nv3b i h4) cw_X6_166 [3] rfl rfl 3 kl2 rfl rfl rfl (Nat.le_of_ble_eq_true rfl) (Nat.le_of_ble_eq_true rfl) rfl hl.1 rfl (Nat.le_of_ble_eq_true rfl) dX6_variableAt_30 (Nat.le_of_ble_eq_true rfl) (Nat.le_of_ble_eq_true rfl)) (fun _ H locs h => ?_)
  have h : ST g A s [(x, .inr (6, [.ref tx, .ref lk, .ref pa, .int 0, .ref nO, .ref dO, .int 0, .int 0, .int 0])), (nO, .inr (4, [.ref np, .int 0, .ref nv, .ref ns, .int 0, .ref nsh])), (nv, .inl (g.2 4, 4, .inr (.inr (.inr (.inr (va_up (va_up (va_up (va_up (fun _ => none) 0 (some nv0)) 1 (some nv1)) 2 (some nv2)) 3 (some nv3))))))), (nv3, .inr (2, [.int 12, .ref nv3b, .int 0]))] H locs := h
  exact r_iret X h hAe () [] rfl rfl 0 0 (Nat.le_of_ble_eq_true rfl) (Nat.le_of_ble_eq_true rfl) rfl dX6_variableAt_33

set_option maxHeartbeats 4000000 in
set_option maxRecDepth 100000 in
/-- back of a fresh object, case  -/
theorem c6_back (l : Launch) (g : GE) (sz : Nat) (x : Nat) (tx : Nat) (lk : Nat) (pa : Nat) (nO : Nat) (dO : Nat) : Met l yX6_back (.code yX6_back cX6_back 2 (some .int) :: WL) { frames := 1, cells := 0, slots := 0, locals := 21 } (PR g [.ref x] [(x, .inr (6, [.ref tx, .ref lk, .ref pa, .int 0, .ref nO, .ref dO, .int 0, .int 0, .int 0]))] sz) (QI g [(x, .inr (6, [.ref tx, .ref lk, .ref pa, .int 0, .ref nO, .ref dO, .int 0, .int 0, .int 0]))] sz (-3) (fun _ : Unit => [])) 0 0 (va_A [(x, .inr (6, [.ref tx, .ref lk, .ref pa, .int 0, .ref nO, .ref dO, .int 0, .int 0, .int 0]))] sz) := by
  refine k_start (by decide) (Nat.le_of_ble_eq_true rfl) ?_
  intro pp ee s m bb mm cd A H locs hAe X h ls hl
  have X : CX g pp s m mm cd _ cX6_back 2 RX6 "back" (some .int) A := X
  have hx := X.1
  have hb := X.2.1
  have hl : lv_has ls 2 [(0, .ref x)] := hl
  refine lv_aload_n hx hb dX6_back_0 rfl (lv_at hl 0 rfl) ?_
  refine r_get X h kl6 0 3 rfl (by decide) lk_X6_28 rfl dX6_back_1 ?_
  refine lv_if_le (tgt := 19) hx hb dX6_back_4 (by decide) (fun c_1 => ?_) (fun c_1 => absurd (by decide) c_1)
  refine lv_aload_n hx hb dX6_back_19 rfl (lv_at hl 0 rfl) ?_
  refine lv_bipush (v := (-3)) hx hb dX6_back_20 (by decide) ?_
  refine k_i X h [0] [] (wr := []) rfl rfl rfl (by decide) 0 0 (Nat.le_of_ble_eq_true rfl) (Nat.le_of_ble_eq_true rfl) (k_runV X h (As := [.int (-3)]) (rest := []) (c6_refuse_no l g H.size x tx lk pa nO dO) cw_X6_54 [0] rfl rfl 0 kl6 rfl rfl rfl (Nat.le_of_ble_eq_true rfl) (Nat.le_of_ble_eq_true rfl) rfl hl.1 rfl (Nat.le_of_ble_eq_true rfl) dX6_back_22 (Nat.le_of_ble_eq_true rfl) (Nat.le_of_ble_eq_true rfl)) (fun _ H locs h => ?_)
  have h : ST g A s [] H locs := h
  exact r_iret X h hAe () [] rfl rfl 0 0 (Nat.le_of_ble_eq_true rfl) (Nat.le_of_ble_eq_true rfl) rfl dX6_back_25
