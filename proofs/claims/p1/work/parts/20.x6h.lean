set_option maxHeartbeats 4000000 in
set_option maxRecDepth 100000 in
/-- refuse(-2) of a fresh object -/
theorem c6_refuse_bad (l : Launch) (g : GE) (sz : Nat) (x : Nat) (tx : Nat) (lk : Nat) (pa : Nat) (nO : Nat) (dO : Nat) : Met l yX6_refuse (.code yX6_refuse cX6_refuse 2 (some .int) :: WL) { frames := 0, cells := 0, slots := 0, locals := 0 } (PR g [.ref x, .int (-2)] [(x, .inr (6, [.ref tx, .ref lk, .ref pa, .int 0, .ref nO, .ref dO, .int 0, .int 0, .int 0]))] sz) (QI g [(x, .inr (6, [.ref tx, .ref lk, .ref pa, .int 0, .ref nO, .ref dO, .int 0, .int 0, .int 0]))] sz (-2) (fun _ : Unit => [])) 0 0 (va_A [(x, .inr (6, [.ref tx, .ref lk, .ref pa, .int 0, .ref nO, .ref dO, .int 0, .int 0, .int 0]))] sz) := by
  refine k_start (by decide) (Nat.le_of_ble_eq_true rfl) ?_
  intro pp ee s m bb mm cd A H locs hAe X h ls hl
  have X : CX g pp s m mm cd _ cX6_refuse 2 RX6 "refuse" (some .int) A := X
  have hx := X.1
  have hb := X.2.1
  have hl : lv_has ls 2 [(0, .ref x), (1, .int (-2))] := hl
  refine lv_iload_n hx hb dX6_refuse_0 rfl (lv_at hl 1 rfl) ?_
  refine lv_bipush (v := (-2)) hx hb dX6_refuse_1 (by decide) ?_
  refine lv_icmp_ne (tgt := 19) hx hb dX6_refuse_3 (by decide) (fun c_1 => absurd (by decide) c_1) (fun c_1 => ?_)
  refine lv_aload_n hx hb dX6_refuse_6 rfl (lv_at hl 0 rfl) ?_
  refine lv_dup hx hb dX6_refuse_7 rfl ?_
  refine r_get X h kl6 0 6 rfl (by decide) lk_X6_32 rfl dX6_refuse_8 ?_
  refine lv_iconst (v := 1) hx hb dX6_refuse_11 (by decide) ?_
  refine lv_iadd hx hb dX6_refuse_12 ?_
  refine r_vi (y := 1) (by decide) ?_
  refine r_put X h kl6 0 6 (v := .int 1) rfl (by decide) lk_X6_32 rfl rfl rfl (Nat.le_of_ble_eq_true rfl) dX6_refuse_13 (fun H locs h => ?_)
  have h : ST g A s [(x, .inr (6, [.ref tx, .ref lk, .ref pa, .int 0, .ref nO, .ref dO, .int 1, .int 0, .int 0]))] H locs := h
  refine lv_goto (tgt := 54) hx hb dX6_refuse_16 (by decide) ?_
  refine lv_iload_n hx hb dX6_refuse_54 rfl (lv_at hl 1 rfl) ?_
  exact r_iret X h hAe () [] rfl rfl 0 0 (Nat.le_of_ble_eq_true rfl) (Nat.le_of_ble_eq_true rfl) rfl dX6_refuse_55

set_option maxHeartbeats 4000000 in
set_option maxRecDepth 100000 in
/-- refuse(-3) of a fresh object -/
theorem c6_refuse_no (l : Launch) (g : GE) (sz : Nat) (x : Nat) (tx : Nat) (lk : Nat) (pa : Nat) (nO : Nat) (dO : Nat) : Met l yX6_refuse (.code yX6_refuse cX6_refuse 2 (some .int) :: WL) { frames := 0, cells := 0, slots := 0, locals := 0 } (PR g [.ref x, .int (-3)] [(x, .inr (6, [.ref tx, .ref lk, .ref pa, .int 0, .ref nO, .ref dO, .int 0, .int 0, .int 0]))] sz) (QI g [(x, .inr (6, [.ref tx, .ref lk, .ref pa, .int 0, .ref nO, .ref dO, .int 0, .int 0, .int 0]))] sz (-3) (fun _ : Unit => [])) 0 0 (va_A [(x, .inr (6, [.ref tx, .ref lk, .ref pa, .int 0, .ref nO, .ref dO, .int 0, .int 0, .int 0]))] sz) := by
  refine k_start (by decide) (Nat.le_of_ble_eq_true rfl) ?_
  intro pp ee s m bb mm cd A H locs hAe X h ls hl
  have X : CX g pp s m mm cd _ cX6_refuse 2 RX6 "refuse" (some .int) A := X
  have hx := X.1
  have hb := X.2.1
  have hl : lv_has ls 2 [(0, .ref x), (1, .int (-3))] := hl
  refine lv_iload_n hx hb dX6_refuse_0 rfl (lv_at hl 1 rfl) ?_
  refine lv_bipush (v := (-2)) hx hb dX6_refuse_1 (by decide) ?_
  refine lv_icmp_ne (tgt := 19) hx hb dX6_refuse_3 (by decide) (fun c_1 => ?_) (fun c_1 => absurd c_1 (by decide))
  refine lv_iload_n hx hb dX6_refuse_19 rfl (lv_at hl 1 rfl) ?_
  refine lv_bipush (v := (-3)) hx hb dX6_refuse_20 (by decide) ?_
  refine lv_icmp_ne (tgt := 38) hx hb dX6_refuse_22 (by decide) (fun c_2 => absurd (by decide) c_2) (fun c_2 => ?_)
  refine lv_aload_n hx hb dX6_refuse_25 rfl (lv_at hl 0 rfl) ?_
  refine lv_dup hx hb dX6_refuse_26 rfl ?_
  refine r_get X h kl6 0 7 rfl (by decide) lk_X6_35 rfl dX6_refuse_27 ?_
  refine lv_iconst (v := 1) hx hb dX6_refuse_30 (by decide) ?_
  refine lv_iadd hx hb dX6_refuse_31 ?_
  refine r_vi (y := 1) (by decide) ?_
  refine r_put X h kl6 0 7 (v := .int 1) rfl (by decide) lk_X6_35 rfl rfl rfl (Nat.le_of_ble_eq_true rfl) dX6_refuse_32 (fun H locs h => ?_)
  have h : ST g A s [(x, .inr (6, [.ref tx, .ref lk, .ref pa, .int 0, .ref nO, .ref dO, .int 0, .int 1, .int 0]))] H locs := h
  refine lv_goto (tgt := 54) hx hb dX6_refuse_35 (by decide) ?_
  refine lv_iload_n hx hb dX6_refuse_54 rfl (lv_at hl 1 rfl) ?_
  exact r_iret X h hAe () [] rfl rfl 0 0 (Nat.le_of_ble_eq_true rfl) (Nat.le_of_ble_eq_true rfl) rfl dX6_refuse_55

set_option maxHeartbeats 4000000 in
set_option maxRecDepth 100000 in
/-- isShown(b) -/
theorem c6_isShown_t (l : Launch) (g : GE) (sz : Nat) (b : Int32) (h1 : ¬ b < 32) (h2 : ¬ 126 < b) : Met l yX6_isShown (.code yX6_isShown cX6_isShown 1 (some .boolean) :: WL) { frames := 0, cells := 0, slots := 0, locals := 0 } (PR g [.int b] [] sz) (QI g [] sz 1 (fun _ : Unit => [])) 0 0 (va_A [] sz) := by
  refine k_start (by decide) (Nat.le_of_ble_eq_true rfl) ?_
  intro pp ee s m bb mm cd A H locs hAe X h ls hl
  have X : CX g pp s m mm cd _ cX6_isShown 1 RX6 "isShown" (some .boolean) A := X
  have hx := X.1
  have hb := X.2.1
  have hl : lv_has ls 1 [(0, .int b)] := hl
  refine lv_iload_n hx hb dX6_isShown_0 rfl (lv_at hl 0 rfl) ?_
  refine lv_bipush (v := 32) hx hb dX6_isShown_1 (by decide) ?_
  refine lv_icmp_lt (tgt := 16) hx hb dX6_isShown_3 (by decide) (fun c_1 => absurd c_1 h1) (fun c_1 => ?_)
  refine lv_iload_n hx hb dX6_isShown_6 rfl (lv_at hl 0 rfl) ?_
  refine lv_bipush (v := 126) hx hb dX6_isShown_7 (by decide) ?_
  refine lv_icmp_gt (tgt := 16) hx hb dX6_isShown_9 (by decide) (fun c_2 => absurd c_2 h2) (fun c_2 => ?_)
  refine lv_iconst (v := 1) hx hb dX6_isShown_12 (by decide) ?_
  refine lv_goto (tgt := 17) hx hb dX6_isShown_13 (by decide) ?_
  exact r_zret X h hAe () [] rfl rfl 0 0 (Nat.le_of_ble_eq_true rfl) (Nat.le_of_ble_eq_true rfl) rfl rfl dX6_isShown_17

set_option maxHeartbeats 4000000 in
set_option maxRecDepth 100000 in
/-- isShown(b) -/
theorem c6_isShown_lo (l : Launch) (g : GE) (sz : Nat) (b : Int32) (h1 : b < 32) : Met l yX6_isShown (.code yX6_isShown cX6_isShown 1 (some .boolean) :: WL) { frames := 0, cells := 0, slots := 0, locals := 0 } (PR g [.int b] [] sz) (QI g [] sz 0 (fun _ : Unit => [])) 0 0 (va_A [] sz) := by
  refine k_start (by decide) (Nat.le_of_ble_eq_true rfl) ?_
  intro pp ee s m bb mm cd A H locs hAe X h ls hl
  have X : CX g pp s m mm cd _ cX6_isShown 1 RX6 "isShown" (some .boolean) A := X
  have hx := X.1
  have hb := X.2.1
  have hl : lv_has ls 1 [(0, .int b)] := hl
  refine lv_iload_n hx hb dX6_isShown_0 rfl (lv_at hl 0 rfl) ?_
  refine lv_bipush (v := 32) hx hb dX6_isShown_1 (by decide) ?_
  refine lv_icmp_lt (tgt := 16) hx hb dX6_isShown_3 (by decide) (fun c_1 => ?_) (fun c_1 => absurd h1 c_1)
  refine lv_iconst (v := 0) hx hb dX6_isShown_16 (by decide) ?_
  exact r_zret X h hAe () [] rfl rfl 0 0 (Nat.le_of_ble_eq_true rfl) (Nat.le_of_ble_eq_true rfl) rfl rfl dX6_isShown_17

set_option maxHeartbeats 4000000 in
set_option maxRecDepth 100000 in
/-- isShown(b) -/
theorem c6_isShown_hi (l : Launch) (g : GE) (sz : Nat) (b : Int32) (h1 : ¬ b < 32) (h2 : 126 < b) : Met l yX6_isShown (.code yX6_isShown cX6_isShown 1 (some .boolean) :: WL) { frames := 0, cells := 0, slots := 0, locals := 0 } (PR g [.int b] [] sz) (QI g [] sz 0 (fun _ : Unit => [])) 0 0 (va_A [] sz) := by
  refine k_start (by decide) (Nat.le_of_ble_eq_true rfl) ?_
  intro pp ee s m bb mm cd A H locs hAe X h ls hl
  have X : CX g pp s m mm cd _ cX6_isShown 1 RX6 "isShown" (some .boolean) A := X
  have hx := X.1
  have hb := X.2.1
  have hl : lv_has ls 1 [(0, .int b)] := hl
  refine lv_iload_n hx hb dX6_isShown_0 rfl (lv_at hl 0 rfl) ?_
  refine lv_bipush (v := 32) hx hb dX6_isShown_1 (by decide) ?_
  refine lv_icmp_lt (tgt := 16) hx hb dX6_isShown_3 (by decide) (fun c_1 => absurd c_1 h1) (fun c_1 => ?_)
  refine lv_iload_n hx hb dX6_isShown_6 rfl (lv_at hl 0 rfl) ?_
  refine lv_bipush (v := 126) hx hb dX6_isShown_7 (by decide) ?_
  refine lv_icmp_gt (tgt := 16) hx hb dX6_isShown_9 (by decide) (fun c_2 => ?_) (fun c_2 => absurd h2 c_2)
  refine lv_iconst (v := 0) hx hb dX6_isShown_16 (by decide) ?_
  exact r_zret X h hAe () [] rfl rfl 0 0 (Nat.le_of_ble_eq_true rfl) (Nat.le_of_ble_eq_true rfl) rfl rfl dX6_isShown_17

set_option maxHeartbeats 4000000 in
set_option maxRecDepth 100000 in
/-- isStop(b) -/
theorem c6_isStop_t (l : Launch) (g : GE) (sz : Nat) (b : Int32) (h1 : ¬ b < 0) (h2 : ¬ 9 < b) (h3 : ¬ 10 ≤ b) : Met l yX6_isStop (.code yX6_isStop cX6_isStop 1 (some .boolean) :: WL) { frames := 0, cells := 0, slots := 0, locals := 0 } (PR g [.int b] [] sz) (QI g [] sz 1 (fun _ : Unit => [])) 0 0 (va_A [] sz) := by
  refine k_start (by decide) (Nat.le_of_ble_eq_true rfl) ?_
  intro pp ee s m bb mm cd A H locs hAe X h ls hl
  have X : CX g pp s m mm cd _ cX6_isStop 1 RX6 "isStop" (some .boolean) A := X
  have hx := X.1
  have hb := X.2.1
  have hl : lv_has ls 1 [(0, .int b)] := hl
  refine lv_iload_n hx hb dX6_isStop_0 rfl (lv_at hl 0 rfl) ?_
  refine lv_if_lt (tgt := 14) hx hb dX6_isStop_1 (by decide) (fun c_1 => absurd c_1 h1) (fun c_1 => ?_)
  refine lv_iload_n hx hb dX6_isStop_4 rfl (lv_at hl 0 rfl) ?_
  refine lv_bipush (v := 10) hx hb dX6_isStop_5 (by decide) ?_
  refine lv_icmp_ge (tgt := 14) hx hb dX6_isStop_7 (by decide) (fun c_2 => absurd c_2 h3) (fun c_2 => ?_)
  refine lv_iconst (v := 1) hx hb dX6_isStop_10 (by decide) ?_
  refine lv_goto (tgt := 15) hx hb dX6_isStop_11 (by decide) ?_
  exact r_zret X h hAe () [] rfl rfl 0 0 (Nat.le_of_ble_eq_true rfl) (Nat.le_of_ble_eq_true rfl) rfl rfl dX6_isStop_15

set_option maxHeartbeats 4000000 in
set_option maxRecDepth 100000 in
/-- isStop(b) -/
theorem c6_isStop_lo (l : Launch) (g : GE) (sz : Nat) (b : Int32) (h1 : b < 0) : Met l yX6_isStop (.code yX6_isStop cX6_isStop 1 (some .boolean) :: WL) { frames := 0, cells := 0, slots := 0, locals := 0 } (PR g [.int b] [] sz) (QI g [] sz 0 (fun _ : Unit => [])) 0 0 (va_A [] sz) := by
  refine k_start (by decide) (Nat.le_of_ble_eq_true rfl) ?_
  intro pp ee s m bb mm cd A H locs hAe X h ls hl
  have X : CX g pp s m mm cd _ cX6_isStop 1 RX6 "isStop" (some .boolean) A := X
  have hx := X.1
  have hb := X.2.1
  have hl : lv_has ls 1 [(0, .int b)] := hl
  refine lv_iload_n hx hb dX6_isStop_0 rfl (lv_at hl 0 rfl) ?_
  refine lv_if_lt (tgt := 14) hx hb dX6_isStop_1 (by decide) (fun c_1 => ?_) (fun c_1 => absurd h1 c_1)
  refine lv_iconst (v := 0) hx hb dX6_isStop_14 (by decide) ?_
  exact r_zret X h hAe () [] rfl rfl 0 0 (Nat.le_of_ble_eq_true rfl) (Nat.le_of_ble_eq_true rfl) rfl rfl dX6_isStop_15

set_option maxHeartbeats 4000000 in
set_option maxRecDepth 100000 in
/-- isStop(b) -/
theorem c6_isStop_hi (l : Launch) (g : GE) (sz : Nat) (b : Int32) (h1 : ¬ b < 0) (h2 : 9 < b) (h3 : 10 ≤ b) : Met l yX6_isStop (.code yX6_isStop cX6_isStop 1 (some .boolean) :: WL) { frames := 0, cells := 0, slots := 0, locals := 0 } (PR g [.int b] [] sz) (QI g [] sz 0 (fun _ : Unit => [])) 0 0 (va_A [] sz) := by
  refine k_start (by decide) (Nat.le_of_ble_eq_true rfl) ?_
  intro pp ee s m bb mm cd A H locs hAe X h ls hl
  have X : CX g pp s m mm cd _ cX6_isStop 1 RX6 "isStop" (some .boolean) A := X
  have hx := X.1
  have hb := X.2.1
  have hl : lv_has ls 1 [(0, .int b)] := hl
  refine lv_iload_n hx hb dX6_isStop_0 rfl (lv_at hl 0 rfl) ?_
  refine lv_if_lt (tgt := 14) hx hb dX6_isStop_1 (by decide) (fun c_1 => absurd c_1 h1) (fun c_1 => ?_)
  refine lv_iload_n hx hb dX6_isStop_4 rfl (lv_at hl 0 rfl) ?_
  refine lv_bipush (v := 10) hx hb dX6_isStop_5 (by decide) ?_
  refine lv_icmp_ge (tgt := 14) hx hb dX6_isStop_7 (by decide) (fun c_2 => ?_) (fun c_2 => absurd h3 c_2)
  refine lv_iconst (v := 0) hx hb dX6_isStop_14 (by decide) ?_
  exact r_zret X h hAe () [] rfl rfl 0 0 (Nat.le_of_ble_eq_true rfl) (Nat.le_of_ble_eq_true rfl) rfl rfl dX6_isStop_15

set_option maxHeartbeats 4000000 in
set_option maxRecDepth 100000 in
/-- isVariable(b) -/
theorem c6_isVariable_t (l : Launch) (g : GE) (sz : Nat) (b : Int32) (h1 : ¬ b < 0) (h2 : ¬ 3 < b) (h3 : ¬ 4 ≤ b) : Met l yX6_isVariable (.code yX6_isVariable cX6_isVariable 1 (some .boolean) :: WL) { frames := 0, cells := 0, slots := 0, locals := 0 } (PR g [.int b] [] sz) (QI g [] sz 1 (fun _ : Unit => [])) 0 0 (va_A [] sz) := by
  refine k_start (by decide) (Nat.le_of_ble_eq_true rfl) ?_
  intro pp ee s m bb mm cd A H locs hAe X h ls hl
  have X : CX g pp s m mm cd _ cX6_isVariable 1 RX6 "isVariable" (some .boolean) A := X
  have hx := X.1
  have hb := X.2.1
  have hl : lv_has ls 1 [(0, .int b)] := hl
  refine lv_iload_n hx hb dX6_isVariable_0 rfl (lv_at hl 0 rfl) ?_
  refine lv_if_lt (tgt := 13) hx hb dX6_isVariable_1 (by decide) (fun c_1 => absurd c_1 h1) (fun c_1 => ?_)
  refine lv_iload_n hx hb dX6_isVariable_4 rfl (lv_at hl 0 rfl) ?_
  refine lv_iconst (v := 4) hx hb dX6_isVariable_5 (by decide) ?_
  refine lv_icmp_ge (tgt := 13) hx hb dX6_isVariable_6 (by decide) (fun c_2 => absurd c_2 h3) (fun c_2 => ?_)
  refine lv_iconst (v := 1) hx hb dX6_isVariable_9 (by decide) ?_
  refine lv_goto (tgt := 14) hx hb dX6_isVariable_10 (by decide) ?_
  exact r_zret X h hAe () [] rfl rfl 0 0 (Nat.le_of_ble_eq_true rfl) (Nat.le_of_ble_eq_true rfl) rfl rfl dX6_isVariable_14

set_option maxHeartbeats 4000000 in
set_option maxRecDepth 100000 in
/-- isVariable(b) -/
theorem c6_isVariable_lo (l : Launch) (g : GE) (sz : Nat) (b : Int32) (h1 : b < 0) : Met l yX6_isVariable (.code yX6_isVariable cX6_isVariable 1 (some .boolean) :: WL) { frames := 0, cells := 0, slots := 0, locals := 0 } (PR g [.int b] [] sz) (QI g [] sz 0 (fun _ : Unit => [])) 0 0 (va_A [] sz) := by
  refine k_start (by decide) (Nat.le_of_ble_eq_true rfl) ?_
  intro pp ee s m bb mm cd A H locs hAe X h ls hl
  have X : CX g pp s m mm cd _ cX6_isVariable 1 RX6 "isVariable" (some .boolean) A := X
  have hx := X.1
  have hb := X.2.1
  have hl : lv_has ls 1 [(0, .int b)] := hl
  refine lv_iload_n hx hb dX6_isVariable_0 rfl (lv_at hl 0 rfl) ?_
  refine lv_if_lt (tgt := 13) hx hb dX6_isVariable_1 (by decide) (fun c_1 => ?_) (fun c_1 => absurd h1 c_1)
  refine lv_iconst (v := 0) hx hb dX6_isVariable_13 (by decide) ?_
  exact r_zret X h hAe () [] rfl rfl 0 0 (Nat.le_of_ble_eq_true rfl) (Nat.le_of_ble_eq_true rfl) rfl rfl dX6_isVariable_14

set_option maxHeartbeats 4000000 in
set_option maxRecDepth 100000 in
/-- isVariable(b) -/
theorem c6_isVariable_hi (l : Launch) (g : GE) (sz : Nat) (b : Int32) (h1 : ¬ b < 0) (h2 : 3 < b) (h3 : 4 ≤ b) : Met l yX6_isVariable (.code yX6_isVariable cX6_isVariable 1 (some .boolean) :: WL) { frames := 0, cells := 0, slots := 0, locals := 0 } (PR g [.int b] [] sz) (QI g [] sz 0 (fun _ : Unit => [])) 0 0 (va_A [] sz) := by
  refine k_start (by decide) (Nat.le_of_ble_eq_true rfl) ?_
  intro pp ee s m bb mm cd A H locs hAe X h ls hl
  have X : CX g pp s m mm cd _ cX6_isVariable 1 RX6 "isVariable" (some .boolean) A := X
  have hx := X.1
  have hb := X.2.1
  have hl : lv_has ls 1 [(0, .int b)] := hl
  refine lv_iload_n hx hb dX6_isVariable_0 rfl (lv_at hl 0 rfl) ?_
  refine lv_if_lt (tgt := 13) hx hb dX6_isVariable_1 (by decide) (fun c_1 => absurd c_1 h1) (fun c_1 => ?_)
  refine lv_iload_n hx hb dX6_isVariable_4 rfl (lv_at hl 0 rfl) ?_
  refine lv_iconst (v := 4) hx hb dX6_isVariable_5 (by decide) ?_
  refine lv_icmp_ge (tgt := 13) hx hb dX6_isVariable_6 (by decide) (fun c_2 => ?_) (fun c_2 => absurd h3 c_2)
  refine lv_iconst (v := 0) hx hb dX6_isVariable_13 (by decide) ?_
  exact r_zret X h hAe () [] rfl rfl 0 0 (Nat.le_of_ble_eq_true rfl) (Nat.le_of_ble_eq_true rfl) rfl rfl dX6_isVariable_14

set_option maxHeartbeats 4000000 in
set_option maxRecDepth 100000 in
/-- canBeVariable of an empty row -/
theorem c6_canBe (l : Launch) (g : GE) (sz : Nat) (tx : Nat) (txb : Nat) : Met l yX6_canBeVariable (.code yX6_canBeVariable cX6_canBeVariable 2 (some .boolean) :: WL) { frames := 1, cells := 0, slots := 0, locals := 20 } (PR g [.ref tx] [(tx, .inr (2, [.int 120, .ref txb, .int 0]))] sz) (QI g [(tx, .inr (2, [.int 120, .ref txb, .int 0]))] sz 1 (fun _ : Unit => [(tx, .inr (2, [.int 120, .ref txb, .int 0]))])) 0 0 (va_A [(tx, .inr (2, [.int 120, .ref txb, .int 0]))] sz) := by
  refine k_start (by decide) (Nat.le_of_ble_eq_true rfl) ?_
  intro pp ee s m bb mm cd A H locs hAe X h ls hl
  have X : CX g pp s m mm cd _ cX6_canBeVariable 2 RX6 "canBeVariable" (some .boolean) A := X
  have hx := X.1
  have hb := X.2.1
  have hl : lv_has ls 2 [(0, .ref tx)] := hl
  refine lv_aload_n hx hb dX6_canBeVariable_0 rfl (lv_at hl 0 rfl) ?_
  refine k_i X h [0] [] (wr := []) rfl rfl rfl (by decide) 0 0 (Nat.le_of_ble_eq_true rfl) (Nat.le_of_ble_eq_true rfl) (k_runV X h (As := []) (rest := []) (c2_size l g H.size tx 120 txb 0) cw_X6_58 [0] rfl rfl 0 kl2 rfl rfl rfl (Nat.le_of_ble_eq_true rfl) (Nat.le_of_ble_eq_true rfl) rfl hl.1 rfl (Nat.le_of_ble_eq_true rfl) dX6_canBeVariable_1 (Nat.le_of_ble_eq_true rfl) (Nat.le_of_ble_eq_true rfl)) (fun _ H locs h => ?_)
  have h : ST g A s [(tx, .inr (2, [.int 120, .ref txb, .int 0]))] H locs := h
  refine lv_bipush (v := 12) hx hb dX6_canBeVariable_4 (by decide) ?_
  refine lv_icmp_le (tgt := 11) hx hb dX6_canBeVariable_6 (by decide) (fun c_1 => ?_) (fun c_1 => absurd (by decide) c_1)
  refine lv_iconst (v := 0) hx hb dX6_canBeVariable_11 (by decide) ?_
  refine lv_istore_n (lv' := [(1, .int 0), (0, .ref tx)]) hx hb dX6_canBeVariable_12 rfl hl (by decide) rfl (fun ls hl => ?_)
  refine lv_iload_n hx hb dX6_canBeVariable_13 rfl (lv_at hl 0 rfl) ?_
  refine lv_aload_n hx hb dX6_canBeVariable_14 rfl (lv_at hl 1 rfl) ?_
  refine k_i X h [0] [] (wr := []) rfl rfl rfl (by decide) 0 0 (Nat.le_of_ble_eq_true rfl) (Nat.le_of_ble_eq_true rfl) (k_runV X h (As := []) (rest := [.int 0]) (c2_size l g H.size tx 120 txb 0) cw_X6_58 [0] rfl rfl 0 kl2 rfl rfl rfl (Nat.le_of_ble_eq_true rfl) (Nat.le_of_ble_eq_true rfl) rfl hl.1 rfl (Nat.le_of_ble_eq_true rfl) dX6_canBeVariable_15 (Nat.le_of_ble_eq_true rfl) (Nat.le_of_ble_eq_true rfl)) (fun _ H locs h => ?_)
  have h : ST g A s [(tx, .inr (2, [.int 120, .ref txb, .int 0]))] H locs := h
  refine lv_icmp_ge (tgt := 40) hx hb dX6_canBeVariable_18 (by decide) (fun c_2 => ?_) (fun c_2 => absurd (by decide) c_2)
  refine lv_iconst (v := 1) hx hb dX6_canBeVariable_40 (by decide) ?_
  exact r_zret X h hAe () [0] rfl rfl 0 0 (Nat.le_of_ble_eq_true rfl) (Nat.le_of_ble_eq_true rfl) rfl rfl dX6_canBeVariable_41

set_option maxHeartbeats 4000000 in
set_option maxRecDepth 100000 in
/-- lands(), the draft fresh -/
theorem c6_lands0 (l : Launch) (g : GE) (sz : Nat) (x : Nat) (tx : Nat) (lk : Nat) (pa : Nat) (nO : Nat) (dO : Nat) (p0 : Nat) (p1 : Nat) (p2 : Nat) (p3 : Nat) (p4 : Nat) (p5 : Nat) (p6 : Nat) (p7 : Nat) (np : Nat) (nv : Nat) (ns : Nat) (nsh : Nat) (dp : Nat) (dv : Nat) (ds : Nat) (dsh : Nat) (dpb : Nat) (ds0 : Nat) (ds1 : Nat) (ds2 : Nat) (dshb : Nat) : Met l yX6_lands (.code yX6_lands cX6_lands 3 (some .boolean) :: WL) { frames := 3, cells := 0, slots := 0, locals := 59 } (PR g [.ref x] [(x, .inr (6, [.ref tx, .ref lk, .ref pa, .int 0, .ref nO, .ref dO, .int 0, .int 0, .int 0])), (pa, .inl (g.2 6, 8, .inr (.inr (.inr (.inr (va_up (va_up (va_up (va_up (va_up (va_up (va_up (va_up (fun _ => none) 0 (some p0)) 1 (some p1)) 2 (some p2)) 3 (some p3)) 4 (some p4)) 5 (some p5)) 6 (some p6)) 7 (some p7))))))), (nO, .inr (4, [.ref np, .int 0, .ref nv, .ref ns, .int 0, .ref nsh])), (dO, .inr (4, [.ref dp, .int 0, .ref dv, .ref ds, .int 0, .ref dsh])), (dp, .inr (2, [.int 241, .ref dpb, .int 0])), (ds, .inl (g.2 5, 3, .inr (.inr (.inr (.inr (va_up (va_up (va_up (fun _ => none) 0 (some ds0)) 1 (some ds1)) 2 (some ds2))))))), (dsh, .inr (2, [.int 241, .ref dshb, .int 0]))] sz) (QI g [(x, .inr (6, [.ref tx, .ref lk, .ref pa, .int 0, .ref nO, .ref dO, .int 0, .int 0, .int 0])), (pa, .inl (g.2 6, 8, .inr (.inr (.inr (.inr (va_up (va_up (va_up (va_up (va_up (va_up (va_up (va_up (fun _ => none) 0 (some p0)) 1 (some p1)) 2 (some p2)) 3 (some p3)) 4 (some p4)) 5 (some p5)) 6 (some p6)) 7 (some p7))))))), (nO, .inr (4, [.ref np, .int 0, .ref nv, .ref ns, .int 0, .ref nsh])), (dO, .inr (4, [.ref dp, .int 0, .ref dv, .ref ds, .int 0, .ref dsh])), (dp, .inr (2, [.int 241, .ref dpb, .int 0])), (ds, .inl (g.2 5, 3, .inr (.inr (.inr (.inr (va_up (va_up (va_up (fun _ => none) 0 (some ds0)) 1 (some ds1)) 2 (some ds2))))))), (dsh, .inr (2, [.int 241, .ref dshb, .int 0]))] sz 1 (fun _ : Unit => [(x, .inr (6, [.ref tx, .ref lk, .ref pa, .int 1, .ref dO, .ref p0, .int 0, .int 0, .int 0])), (dO, .inr (4, [.ref dp, .int 0, .ref dv, .ref ds, .int 0, .ref dsh])), (dsh, .inr (2, [.int 241, .ref dshb, .int 0]))])) 0 0 (va_A [(x, .inr (6, [.ref tx, .ref lk, .ref pa, .int 0, .ref nO, .ref dO, .int 0, .int 0, .int 0])), (pa, .inl (g.2 6, 8, .inr (.inr (.inr (.inr (va_up (va_up (va_up (va_up (va_up (va_up (va_up (va_up (fun _ => none) 0 (some p0)) 1 (some p1)) 2 (some p2)) 3 (some p3)) 4 (some p4)) 5 (some p5)) 6 (some p6)) 7 (some p7))))))), (nO, .inr (4, [.ref np, .int 0, .ref nv, .ref ns, .int 0, .ref nsh])), (dO, .inr (4, [.ref dp, .int 0, .ref dv, .ref ds, .int 0, .ref dsh])), (dp, .inr (2, [.int 241, .ref dpb, .int 0])), (ds, .inl (g.2 5, 3, .inr (.inr (.inr (.inr (va_up (va_up (va_up (fun _ => none) 0 (some ds0)) 1 (some ds1)) 2 (some ds2))))))), (dsh, .inr (2, [.int 241, .ref dshb, .int 0]))] sz) := by
  refine k_start (by decide) (Nat.le_of_ble_eq_true rfl) ?_
  intro pp ee s m bb mm cd A H locs hAe X h ls hl
  have X : CX g pp s m mm cd _ cX6_lands 3 RX6 "lands" (some .boolean) A := X
  have hx := X.1
  have hb := X.2.1
  have hl : lv_has ls 3 [(0, .ref x)] := hl
  refine lv_aload_n hx hb dX6_lands_0 rfl (lv_at hl 0 rfl) ?_
  refine r_get X h kl6 0 5 rfl (by decide) lk_X6_51 rfl dX6_lands_1 ?_
  refine k_i X h [3, 4, 5, 6] [0, 1, 2] (wr := [(x, .inr (6, [.ref tx, .ref lk, .ref pa, .int 0, .ref nO, .ref dO, .int 0, .int 0, .int 0])), (pa, .inl (g.2 6, 8, .inr (.inr (.inr (.inr (va_up (va_up (va_up (va_up (va_up (va_up (va_up (va_up (fun _ => none) 0 (some p0)) 1 (some p1)) 2 (some p2)) 3 (some p3)) 4 (some p4)) 5 (some p5)) 6 (some p6)) 7 (some p7))))))), (nO, .inr (4, [.ref np, .int 0, .ref nv, .ref ns, .int 0, .ref nsh]))]) rfl rfl rfl (by decide) 0 0 (Nat.le_of_ble_eq_true rfl) (Nat.le_of_ble_eq_true rfl) (k_runV X h (As := []) (rest := []) (c4_settle0 l g H.size dO dp dv ds dsh dpb ds0 ds1 ds2 dshb) cw_X6_110 [3, 4, 5, 6] rfl rfl 3 kl4 rfl rfl rfl (Nat.le_of_ble_eq_true rfl) (Nat.le_of_ble_eq_true rfl) rfl hl.1 rfl (Nat.le_of_ble_eq_true rfl) dX6_lands_4 (Nat.le_of_ble_eq_true rfl) (Nat.le_of_ble_eq_true rfl)) (fun _ H locs h => ?_)
  have h : ST g A s [(x, .inr (6, [.ref tx, .ref lk, .ref pa, .int 0, .ref nO, .ref dO, .int 0, .int 0, .int 0])), (pa, .inl (g.2 6, 8, .inr (.inr (.inr (.inr (va_up (va_up (va_up (va_up (va_up (va_up (va_up (va_up (fun _ => none) 0 (some p0)) 1 (some p1)) 2 (some p2)) 3 (some p3)) 4 (some p4)) 5 (some p5)) 6 (some p6)) 7 (some p7))))))), (nO, .inr (4, [.ref np, .int 0, .ref nv, .ref ns, .int 0, .ref nsh])), (dO, .inr (4, [.ref dp, .int 0, .ref dv, .ref ds, .int 0, .ref dsh])), (dp, .inr (2, [.int 241, .ref dpb, .int 0])), (ds, .inl (g.2 5, 3, .inr (.inr (.inr (.inr (va_up (va_up (va_up (fun _ => none) 0 (some ds0)) 1 (some ds1)) 2 (some ds2))))))), (dsh, .inr (2, [.int 241, .ref dshb, .int 0]))] H locs := h
  refine lv_if_ne (tgt := 12) hx hb dX6_lands_7 (by decide) (fun c_1 => ?_) (fun c_1 => absurd c_1 (by decide))
  refine lv_aload_n hx hb dX6_lands_12 rfl (lv_at hl 0 rfl) ?_
  refine r_get X h kl6 0 2 rfl (by decide) lk_X6_24 rfl dX6_lands_13 ?_
  refine lv_iconst (v := 0) hx hb dX6_lands_16 (by decide) ?_
  refine r_aald X h 1 6 (v := .ref p0) rfl rfl (vp_lit (by decide +kernel)) rfl dX6_lands_17 ?_
  refine lv_astore_n (lv' := [(1, .ref p0), (0, .ref x)]) hx hb dX6_lands_18 rfl hl (by decide) rfl (fun ls hl => ?_)
  refine lv_aload_n hx hb dX6_lands_19 rfl (lv_at hl 1 rfl) ?_
  refine r_get X h kl6 0 3 rfl (by decide) lk_X6_28 rfl dX6_lands_20 ?_
  refine lv_aload_n hx hb dX6_lands_23 rfl (lv_at hl 1 rfl) ?_
  refine r_get X h kl6 0 2 rfl (by decide) lk_X6_24 rfl dX6_lands_24 ?_
  refine r_alen X h 1 6 (v := 8) rfl rfl rfl dX6_lands_27 ?_
  refine lv_icmp_ge (tgt := 67) hx hb dX6_lands_28 (by decide) (fun c_2 => absurd c_2 (by decide)) (fun c_2 => ?_)
  refine lv_aload_n hx hb dX6_lands_31 rfl (lv_at hl 1 rfl) ?_
  refine r_get X h kl6 0 2 rfl (by decide) lk_X6_24 rfl dX6_lands_32 ?_
  refine lv_aload_n hx hb dX6_lands_35 rfl (lv_at hl 1 rfl) ?_
  refine r_get X h kl6 0 3 rfl (by decide) lk_X6_28 rfl dX6_lands_36 ?_
  refine r_aald X h 1 6 (v := .ref p0) rfl rfl (vp_lit (by decide +kernel)) rfl dX6_lands_39 ?_
  refine lv_astore_n (lv' := [(1, .ref p0), (0, .ref x)]) hx hb dX6_lands_40 rfl hl (by decide) rfl (fun ls hl => ?_)
  refine lv_aload_n hx hb dX6_lands_41 rfl (lv_at hl 1 rfl) ?_
  refine r_get X h kl6 0 2 rfl (by decide) lk_X6_24 rfl dX6_lands_42 ?_
  refine lv_aload_n hx hb dX6_lands_45 rfl (lv_at hl 1 rfl) ?_
  refine r_get X h kl6 0 3 rfl (by decide) lk_X6_28 rfl dX6_lands_46 ?_
  refine lv_aload_n hx hb dX6_lands_49 rfl (lv_at hl 1 rfl) ?_
  refine r_get X h kl6 0 4 rfl (by decide) lk_X6_47 rfl dX6_lands_50 ?_
  refine r_aast X h 1 6 2 4 rfl rfl rfl rfl (vp_lit (by decide +kernel)) dX6_lands_53 (fun H locs h => ?_)
  have h : ST g A s [(x, .inr (6, [.ref tx, .ref lk, .ref pa, .int 0, .ref nO, .ref dO, .int 0, .int 0, .int 0])), (pa, .inl (g.2 6, 8, .inr (.inr (.inr (.inr (va_up (va_up (va_up (va_up (va_up (va_up (va_up (va_up (va_up (fun _ => none) 0 (some p0)) 1 (some p1)) 2 (some p2)) 3 (some p3)) 4 (some p4)) 5 (some p5)) 6 (some p6)) 7 (some p7)) 0 (some nO))))))), (nO, .inr (4, [.ref np, .int 0, .ref nv, .ref ns, .int 0, .ref nsh])), (dO, .inr (4, [.ref dp, .int 0, .ref dv, .ref ds, .int 0, .ref dsh])), (dp, .inr (2, [.int 241, .ref dpb, .int 0])), (ds, .inl (g.2 5, 3, .inr (.inr (.inr (.inr (va_up (va_up (va_up (fun _ => none) 0 (some ds0)) 1 (some ds1)) 2 (some ds2))))))), (dsh, .inr (2, [.int 241, .ref dshb, .int 0]))] H locs := h
  refine lv_aload_n hx hb dX6_lands_54 rfl (lv_at hl 1 rfl) ?_
  refine lv_dup hx hb dX6_lands_55 rfl ?_
  refine r_get X h kl6 0 3 rfl (by decide) lk_X6_28 rfl dX6_lands_56 ?_
  refine lv_iconst (v := 1) hx hb dX6_lands_59 (by decide) ?_
  refine lv_iadd hx hb dX6_lands_60 ?_
  refine r_vi (y := 1) (by decide) ?_
  refine r_put X h kl6 0 3 (v := .int 1) rfl (by decide) lk_X6_28 rfl rfl rfl (Nat.le_of_ble_eq_true rfl) dX6_lands_61 (fun H locs h => ?_)
  have h : ST g A s [(x, .inr (6, [.ref tx, .ref lk, .ref pa, .int 1, .ref nO, .ref dO, .int 0, .int 0, .int 0])), (pa, .inl (g.2 6, 8, .inr (.inr (.inr (.inr (va_up (va_up (va_up (va_up (va_up (va_up (va_up (va_up (va_up (fun _ => none) 0 (some p0)) 1 (some p1)) 2 (some p2)) 3 (some p3)) 4 (some p4)) 5 (some p5)) 6 (some p6)) 7 (some p7)) 0 (some nO))))))), (nO, .inr (4, [.ref np, .int 0, .ref nv, .ref ns, .int 0, .ref nsh])), (dO, .inr (4, [.ref dp, .int 0, .ref dv, .ref ds, .int 0, .ref dsh])), (dp, .inr (2, [.int 241, .ref dpb, .int 0])), (ds, .inl (g.2 5, 3, .inr (.inr (.inr (.inr (va_up (va_up (va_up (fun _ => none) 0 (some ds0)) 1 (some ds1)) 2 (some ds2))))))), (dsh, .inr (2, [.int 241, .ref dshb, .int 0]))] H locs := h
  refine lv_goto (tgt := 114) hx hb dX6_lands_64 (by decide) ?_
  refine lv_aload_n hx hb dX6_lands_114 rfl (lv_at hl 1 rfl) ?_
  refine lv_aload_n hx hb dX6_lands_115 rfl (lv_at hl 1 rfl) ?_
  refine r_get X h kl6 0 5 rfl (by decide) lk_X6_51 rfl dX6_lands_116 ?_
  refine r_put X h kl6 0 4 (v := .ref dO) rfl (by decide) lk_X6_47 rfl rfl rfl (Nat.le_of_ble_eq_true rfl) dX6_lands_119 (fun H locs h => ?_)
  have h : ST g A s [(x, .inr (6, [.ref tx, .ref lk, .ref pa, .int 1, .ref dO, .ref dO, .int 0, .int 0, .int 0])), (pa, .inl (g.2 6, 8, .inr (.inr (.inr (.inr (va_up (va_up (va_up (va_up (va_up (va_up (va_up (va_up (va_up (fun _ => none) 0 (some p0)) 1 (some p1)) 2 (some p2)) 3 (some p3)) 4 (some p4)) 5 (some p5)) 6 (some p6)) 7 (some p7)) 0 (some nO))))))), (nO, .inr (4, [.ref np, .int 0, .ref nv, .ref ns, .int 0, .ref nsh])), (dO, .inr (4, [.ref dp, .int 0, .ref dv, .ref ds, .int 0, .ref dsh])), (dp, .inr (2, [.int 241, .ref dpb, .int 0])), (ds, .inl (g.2 5, 3, .inr (.inr (.inr (.inr (va_up (va_up (va_up (fun _ => none) 0 (some ds0)) 1 (some ds1)) 2 (some ds2))))))), (dsh, .inr (2, [.int 241, .ref dshb, .int 0]))] H locs := h
  refine lv_aload_n hx hb dX6_lands_122 rfl (lv_at hl 1 rfl) ?_
  refine lv_aload_n hx hb dX6_lands_123 rfl (lv_at hl 0 rfl) ?_
  refine r_put X h kl6 0 5 (v := .ref p0) rfl (by decide) lk_X6_51 rfl rfl rfl (Nat.le_of_ble_eq_true rfl) dX6_lands_124 (fun H locs h => ?_)
  have h : ST g A s [(x, .inr (6, [.ref tx, .ref lk, .ref pa, .int 1, .ref dO, .ref p0, .int 0, .int 0, .int 0])), (pa, .inl (g.2 6, 8, .inr (.inr (.inr (.inr (va_up (va_up (va_up (va_up (va_up (va_up (va_up (va_up (va_up (fun _ => none) 0 (some p0)) 1 (some p1)) 2 (some p2)) 3 (some p3)) 4 (some p4)) 5 (some p5)) 6 (some p6)) 7 (some p7)) 0 (some nO))))))), (nO, .inr (4, [.ref np, .int 0, .ref nv, .ref ns, .int 0, .ref nsh])), (dO, .inr (4, [.ref dp, .int 0, .ref dv, .ref ds, .int 0, .ref dsh])), (dp, .inr (2, [.int 241, .ref dpb, .int 0])), (ds, .inl (g.2 5, 3, .inr (.inr (.inr (.inr (va_up (va_up (va_up (fun _ => none) 0 (some ds0)) 1 (some ds1)) 2 (some ds2))))))), (dsh, .inr (2, [.int 241, .ref dshb, .int 0]))] H locs := h
  refine lv_iconst (v := 1) hx hb dX6_lands_127 (by decide) ?_
  exact r_zret X h hAe () [0, 3, 6] rfl rfl 0 0 (Nat.le_of_ble_eq_true rfl) (Nat.le_of_ble_eq_true rfl) rfl rfl dX6_lands_128

set_option maxHeartbeats 4000000 in
set_option maxRecDepth 100000 in
/-- lands(), the draft of one byte -/
theorem c6_landsK (l : Launch) (g : GE) (sz : Nat) (x : Nat) (tx : Nat) (lk : Nat) (pa : Nat) (nO : Nat) (dO : Nat) (p0 : Nat) (p1 : Nat) (p2 : Nat) (p3 : Nat) (p4 : Nat) (p5 : Nat) (p6 : Nat) (p7 : Nat) (np : Nat) (nv : Nat) (ns : Nat) (nsh : Nat) (ds : Nat) (ds0 : Nat) (ds1 : Nat) (ds2 : Nat) (dsh : Nat) (dshb : Nat) (dp : Nat) (dv : Nat) (dpb : Nat) (f : Nat → Int32) (hf : ∀ i, i < Int32.toNatClampNeg 1 → fits .byte (.int (f (Int32.toNatClampNeg 0 + i))) = true) : Met l yX6_lands (.code yX6_lands cX6_lands 3 (some .boolean) :: WL) { frames := 3, cells := 1, slots := 16, locals := 86 } (PR g [.ref x] [(x, .inr (6, [.ref tx, .ref lk, .ref pa, .int 0, .ref nO, .ref dO, .int 0, .int 0, .int 0])), (pa, .inl (g.2 6, 8, .inr (.inr (.inr (.inr (va_up (va_up (va_up (va_up (va_up (va_up (va_up (va_up (fun _ => none) 0 (some p0)) 1 (some p1)) 2 (some p2)) 3 (some p3)) 4 (some p4)) 5 (some p5)) 6 (some p6)) 7 (some p7))))))), (nO, .inr (4, [.ref np, .int 0, .ref nv, .ref ns, .int 0, .ref nsh])), (ds, .inl (g.2 5, 3, .inr (.inr (.inr (.inr (va_up (va_up (va_up (fun _ => none) 0 (some ds0)) 1 (some ds1)) 2 (some ds2))))))), (dsh, .inr (2, [.int 241, .ref dshb, .int 0])), (dshb, .inl (g.2 0, 0, .inl (fun _ => 0))), (dO, .inr (4, [.ref dp, .int 1, .ref dv, .ref ds, .int 0, .ref dsh])), (dp, .inr (2, [.int 241, .ref dpb, .int 1])), (dpb, .inl (g.2 0, 16, .inl f))] sz) (QI g [(x, .inr (6, [.ref tx, .ref lk, .ref pa, .int 0, .ref nO, .ref dO, .int 0, .int 0, .int 0])), (pa, .inl (g.2 6, 8, .inr (.inr (.inr (.inr (va_up (va_up (va_up (va_up (va_up (va_up (va_up (va_up (fun _ => none) 0 (some p0)) 1 (some p1)) 2 (some p2)) 3 (some p3)) 4 (some p4)) 5 (some p5)) 6 (some p6)) 7 (some p7))))))), (nO, .inr (4, [.ref np, .int 0, .ref nv, .ref ns, .int 0, .ref nsh])), (ds, .inl (g.2 5, 3, .inr (.inr (.inr (.inr (va_up (va_up (va_up (fun _ => none) 0 (some ds0)) 1 (some ds1)) 2 (some ds2))))))), (dsh, .inr (2, [.int 241, .ref dshb, .int 0])), (dshb, .inl (g.2 0, 0, .inl (fun _ => 0))), (dO, .inr (4, [.ref dp, .int 1, .ref dv, .ref ds, .int 0, .ref dsh])), (dp, .inr (2, [.int 241, .ref dpb, .int 1])), (dpb, .inl (g.2 0, 16, .inl f))] sz 1 (fun u : Nat => [(x, .inr (6, [.ref tx, .ref lk, .ref pa, .int 1, .ref dO, .ref p0, .int 0, .int 0, .int 0])), (dO, .inr (4, [.ref dp, .int 1, .ref dv, .ref ds, .int 0, .ref dsh])), (dsh, .inr (2, [.int 241, .ref u, .int 1]))])) 1 16 (va_A [(x, .inr (6, [.ref tx, .ref lk, .ref pa, .int 0, .ref nO, .ref dO, .int 0, .int 0, .int 0])), (pa, .inl (g.2 6, 8, .inr (.inr (.inr (.inr (va_up (va_up (va_up (va_up (va_up (va_up (va_up (va_up (fun _ => none) 0 (some p0)) 1 (some p1)) 2 (some p2)) 3 (some p3)) 4 (some p4)) 5 (some p5)) 6 (some p6)) 7 (some p7))))))), (nO, .inr (4, [.ref np, .int 0, .ref nv, .ref ns, .int 0, .ref nsh])), (ds, .inl (g.2 5, 3, .inr (.inr (.inr (.inr (va_up (va_up (va_up (fun _ => none) 0 (some ds0)) 1 (some ds1)) 2 (some ds2))))))), (dsh, .inr (2, [.int 241, .ref dshb, .int 0])), (dshb, .inl (g.2 0, 0, .inl (fun _ => 0))), (dO, .inr (4, [.ref dp, .int 1, .ref dv, .ref ds, .int 0, .ref dsh])), (dp, .inr (2, [.int 241, .ref dpb, .int 1])), (dpb, .inl (g.2 0, 16, .inl f))] sz) := by
  refine k_start (by decide) (Nat.le_of_ble_eq_true rfl) ?_
  intro pp ee s m bb mm cd A H locs hAe X h ls hl
  have X : CX g pp s m mm cd _ cX6_lands 3 RX6 "lands" (some .boolean) A := X
  have hx := X.1
  have hb := X.2.1
  have hl : lv_has ls 3 [(0, .ref x)] := hl
  refine lv_aload_n hx hb dX6_lands_0 rfl (lv_at hl 0 rfl) ?_
  refine r_get X h kl6 0 5 rfl (by decide) lk_X6_51 rfl dX6_lands_1 ?_
  refine k_i X h [6, 7, 8, 3, 4, 5] [0, 1, 2] (wr := [(x, .inr (6, [.ref tx, .ref lk, .ref pa, .int 0, .ref nO, .ref dO, .int 0, .int 0, .int 0])), (pa, .inl (g.2 6, 8, .inr (.inr (.inr (.inr (va_up (va_up (va_up (va_up (va_up (va_up (va_up (va_up (fun _ => none) 0 (some p0)) 1 (some p1)) 2 (some p2)) 3 (some p3)) 4 (some p4)) 5 (some p5)) 6 (some p6)) 7 (some p7))))))), (nO, .inr (4, [.ref np, .int 0, .ref nv, .ref ns, .int 0, .ref nsh]))]) rfl rfl rfl (by decide) 1 16 (Nat.le_of_ble_eq_true rfl) (Nat.le_of_ble_eq_true rfl) (k_runV X h (As := []) (rest := []) (c4_settleK l g H.size dO dp dv ds dsh dpb ds0 ds1 ds2 dshb f hf) cw_X6_110 [6, 7, 8, 3, 4, 5] rfl rfl 6 kl4 rfl rfl rfl (Nat.le_of_ble_eq_true rfl) (Nat.le_of_ble_eq_true rfl) rfl hl.1 rfl (Nat.le_of_ble_eq_true rfl) dX6_lands_4 (Nat.le_of_ble_eq_true rfl) (Nat.le_of_ble_eq_true rfl)) (fun u9 H locs h => ?_)
  obtain ⟨u_1, rfl⟩ : ∃ z, z = u9 := ⟨_, rfl⟩
  have h : ST g A s [(x, .inr (6, [.ref tx, .ref lk, .ref pa, .int 0, .ref nO, .ref dO, .int 0, .int 0, .int 0])), (pa, .inl (g.2 6, 8, .inr (.inr (.inr (.inr (va_up (va_up (va_up (va_up (va_up (va_up (va_up (va_up (fun _ => none) 0 (some p0)) 1 (some p1)) 2 (some p2)) 3 (some p3)) 4 (some p4)) 5 (some p5)) 6 (some p6)) 7 (some p7))))))), (nO, .inr (4, [.ref np, .int 0, .ref nv, .ref ns, .int 0, .ref nsh])), (dO, .inr (4, [.ref dp, .int 1, .ref dv, .ref ds, .int 0, .ref dsh])), (dp, .inr (2, [.int 241, .ref dpb, .int 1])), (ds, .inl (g.2 5, 3, .inr (.inr (.inr (.inr (va_up (va_up (va_up (fun _ => none) 0 (some ds0)) 1 (some ds1)) 2 (some ds2))))))), (dsh, .inr (2, [.int 241, .ref u_1, .int 1]))] H locs := h
  refine lv_if_ne (tgt := 12) hx hb dX6_lands_7 (by decide) (fun c_2 => ?_) (fun c_2 => absurd c_2 (by decide))
  refine lv_aload_n hx hb dX6_lands_12 rfl (lv_at hl 0 rfl) ?_
  refine r_get X h kl6 0 2 rfl (by decide) lk_X6_24 rfl dX6_lands_13 ?_
  refine lv_iconst (v := 0) hx hb dX6_lands_16 (by decide) ?_
  refine r_aald X h 1 6 (v := .ref p0) rfl rfl (vp_lit (by decide +kernel)) rfl dX6_lands_17 ?_
  refine lv_astore_n (lv' := [(1, .ref p0), (0, .ref x)]) hx hb dX6_lands_18 rfl hl (by decide) rfl (fun ls hl => ?_)
  refine lv_aload_n hx hb dX6_lands_19 rfl (lv_at hl 1 rfl) ?_
  refine r_get X h kl6 0 3 rfl (by decide) lk_X6_28 rfl dX6_lands_20 ?_
  refine lv_aload_n hx hb dX6_lands_23 rfl (lv_at hl 1 rfl) ?_
  refine r_get X h kl6 0 2 rfl (by decide) lk_X6_24 rfl dX6_lands_24 ?_
  refine r_alen X h 1 6 (v := 8) rfl rfl rfl dX6_lands_27 ?_
  refine lv_icmp_ge (tgt := 67) hx hb dX6_lands_28 (by decide) (fun c_3 => absurd c_3 (by decide)) (fun c_3 => ?_)
  refine lv_aload_n hx hb dX6_lands_31 rfl (lv_at hl 1 rfl) ?_
  refine r_get X h kl6 0 2 rfl (by decide) lk_X6_24 rfl dX6_lands_32 ?_
  refine lv_aload_n hx hb dX6_lands_35 rfl (lv_at hl 1 rfl) ?_
  refine r_get X h kl6 0 3 rfl (by decide) lk_X6_28 rfl dX6_lands_36 ?_
  refine r_aald X h 1 6 (v := .ref p0) rfl rfl (vp_lit (by decide +kernel)) rfl dX6_lands_39 ?_
  refine lv_astore_n (lv' := [(1, .ref p0), (0, .ref x)]) hx hb dX6_lands_40 rfl hl (by decide) rfl (fun ls hl => ?_)
  refine lv_aload_n hx hb dX6_lands_41 rfl (lv_at hl 1 rfl) ?_
  refine r_get X h kl6 0 2 rfl (by decide) lk_X6_24 rfl dX6_lands_42 ?_
  refine lv_aload_n hx hb dX6_lands_45 rfl (lv_at hl 1 rfl) ?_
  refine r_get X h kl6 0 3 rfl (by decide) lk_X6_28 rfl dX6_lands_46 ?_
  refine lv_aload_n hx hb dX6_lands_49 rfl (lv_at hl 1 rfl) ?_
  refine r_get X h kl6 0 4 rfl (by decide) lk_X6_47 rfl dX6_lands_50 ?_
  refine r_aast X h 1 6 2 4 rfl rfl rfl rfl (vp_lit (by decide +kernel)) dX6_lands_53 (fun H locs h => ?_)
  have h : ST g A s [(x, .inr (6, [.ref tx, .ref lk, .ref pa, .int 0, .ref nO, .ref dO, .int 0, .int 0, .int 0])), (pa, .inl (g.2 6, 8, .inr (.inr (.inr (.inr (va_up (va_up (va_up (va_up (va_up (va_up (va_up (va_up (va_up (fun _ => none) 0 (some p0)) 1 (some p1)) 2 (some p2)) 3 (some p3)) 4 (some p4)) 5 (some p5)) 6 (some p6)) 7 (some p7)) 0 (some nO))))))), (nO, .inr (4, [.ref np, .int 0, .ref nv, .ref ns, .int 0, .ref nsh])), (dO, .inr (4, [.ref dp, .int 1, .ref dv, .ref ds, .int 0, .ref dsh])), (dp, .inr (2, [.int 241, .ref dpb, .int 1])), (ds, .inl (g.2 5, 3, .inr (.inr (.inr (.inr (va_up (va_up (va_up (fun _ => none) 0 (some ds0)) 1 (some ds1)) 2 (some ds2))))))), (dsh, .inr (2, [.int 241, .ref u_1, .int 1]))] H locs := h
  refine lv_aload_n hx hb dX6_lands_54 rfl (lv_at hl 1 rfl) ?_
  refine lv_dup hx hb dX6_lands_55 rfl ?_
  refine r_get X h kl6 0 3 rfl (by decide) lk_X6_28 rfl dX6_lands_56 ?_
  refine lv_iconst (v := 1) hx hb dX6_lands_59 (by decide) ?_
  refine lv_iadd hx hb dX6_lands_60 ?_
  refine r_vi (y := 1) (by decide) ?_
  refine r_put X h kl6 0 3 (v := .int 1) rfl (by decide) lk_X6_28 rfl rfl rfl (Nat.le_of_ble_eq_true rfl) dX6_lands_61 (fun H locs h => ?_)
  have h : ST g A s [(x, .inr (6, [.ref tx, .ref lk, .ref pa, .int 1, .ref nO, .ref dO, .int 0, .int 0, .int 0])), (pa, .inl (g.2 6, 8, .inr (.inr (.inr (.inr (va_up (va_up (va_up (va_up (va_up (va_up (va_up (va_up (va_up (fun _ => none) 0 (some p0)) 1 (some p1)) 2 (some p2)) 3 (some p3)) 4 (some p4)) 5 (some p5)) 6 (some p6)) 7 (some p7)) 0 (some nO))))))), (nO, .inr (4, [.ref np, .int 0, .ref nv, .ref ns, .int 0, .ref nsh])), (dO, .inr (4, [.ref dp, .int 1, .ref dv, .ref ds, .int 0, .ref dsh])), (dp, .inr (2, [.int 241, .ref dpb, .int 1])), (ds, .inl (g.2 5, 3, .inr (.inr (.inr (.inr (va_up (va_up (va_up (fun _ => none) 0 (some ds0)) 1 (some ds1)) 2 (some ds2))))))), (dsh, .inr (2, [.int 241, .ref u_1, .int 1]))] H locs := h
  refine lv_goto (tgt := 114) hx hb dX6_lands_64 (by decide) ?_
  refine lv_aload_n hx hb dX6_lands_114 rfl (lv_at hl 1 rfl) ?_
  refine lv_aload_n hx hb dX6_lands_115 rfl (lv_at hl 1 rfl) ?_
  refine r_get X h kl6 0 5 rfl (by decide) lk_X6_51 rfl dX6_lands_116 ?_
  refine r_put X h kl6 0 4 (v := .ref dO) rfl (by decide) lk_X6_47 rfl rfl rfl (Nat.le_of_ble_eq_true rfl) dX6_lands_119 (fun H locs h => ?_)
  have h : ST g A s [(x, .inr (6, [.ref tx, .ref lk, .ref pa, .int 1, .ref dO, .ref dO, .int 0, .int 0, .int 0])), (pa, .inl (g.2 6, 8, .inr (.inr (.inr (.inr (va_up (va_up (va_up (va_up (va_up (va_up (va_up (va_up (va_up (fun _ => none) 0 (some p0)) 1 (some p1)) 2 (some p2)) 3 (some p3)) 4 (some p4)) 5 (some p5)) 6 (some p6)) 7 (some p7)) 0 (some nO))))))), (nO, .inr (4, [.ref np, .int 0, .ref nv, .ref ns, .int 0, .ref nsh])), (dO, .inr (4, [.ref dp, .int 1, .ref dv, .ref ds, .int 0, .ref dsh])), (dp, .inr (2, [.int 241, .ref dpb, .int 1])), (ds, .inl (g.2 5, 3, .inr (.inr (.inr (.inr (va_up (va_up (va_up (fun _ => none) 0 (some ds0)) 1 (some ds1)) 2 (some ds2))))))), (dsh, .inr (2, [.int 241, .ref u_1, .int 1]))] H locs := h
  refine lv_aload_n hx hb dX6_lands_122 rfl (lv_at hl 1 rfl) ?_
  refine lv_aload_n hx hb dX6_lands_123 rfl (lv_at hl 0 rfl) ?_
  refine r_put X h kl6 0 5 (v := .ref p0) rfl (by decide) lk_X6_51 rfl rfl rfl (Nat.le_of_ble_eq_true rfl) dX6_lands_124 (fun H locs h => ?_)
  have h : ST g A s [(x, .inr (6, [.ref tx, .ref lk, .ref pa, .int 1, .ref dO, .ref p0, .int 0, .int 0, .int 0])), (pa, .inl (g.2 6, 8, .inr (.inr (.inr (.inr (va_up (va_up (va_up (va_up (va_up (va_up (va_up (va_up (va_up (fun _ => none) 0 (some p0)) 1 (some p1)) 2 (some p2)) 3 (some p3)) 4 (some p4)) 5 (some p5)) 6 (some p6)) 7 (some p7)) 0 (some nO))))))), (nO, .inr (4, [.ref np, .int 0, .ref nv, .ref ns, .int 0, .ref nsh])), (dO, .inr (4, [.ref dp, .int 1, .ref dv, .ref ds, .int 0, .ref dsh])), (dp, .inr (2, [.int 241, .ref dpb, .int 1])), (ds, .inl (g.2 5, 3, .inr (.inr (.inr (.inr (va_up (va_up (va_up (fun _ => none) 0 (some ds0)) 1 (some ds1)) 2 (some ds2))))))), (dsh, .inr (2, [.int 241, .ref u_1, .int 1]))] H locs := h
  refine lv_iconst (v := 1) hx hb dX6_lands_127 (by decide) ?_
  exact r_zret X h hAe u_1 [0, 3, 6] rfl rfl 1 16 (Nat.le_of_ble_eq_true rfl) (Nat.le_of_ble_eq_true rfl) rfl rfl dX6_lands_128
