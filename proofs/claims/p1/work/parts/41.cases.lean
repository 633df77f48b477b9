set_option maxHeartbeats 4000000 in
set_option maxRecDepth 100000 in
theorem lw_type_lo {nm : String} {g : GE} {pp : Program} {l : Launch} {ee : Env} {s : State} {m : MethodId} {bb : List Frame} {mm : Method} {cd : Code} {bs : Nat} {xs : Nat → Int32} {H : Heap} {locs : List Loc} {ls : Array Slot} (X : CX g pp s m mm cd #[Value.ref bs] cL_law 4 RL nm ret (LA s)) (hX : va_X bs 4 xs s s.heap) (hbl : bs < s.heap.size) {y x tx lk pa nO dO y_refused y_document y_variables y_nodes y_node y_master y_isSet y_setMany y_setFrom y_setUsed y_setText y_atStop y_isFresh y_then y_choiceMany y_choiceFrom y_choiceLong y_choiceBytes y_text y_open y_shown y_nextNode y_endNode y_made y_beganAt y_ofNode y_isOwn y_begin y_size y_holding y_kept : Nat} (h : ST g (LA s) s [(x, .inr (6, [.ref tx, .ref lk, .ref pa, .int 0, .ref nO, .ref dO, .int 0, .int 0, .int 0])), (y, .inr (7, [.ref y_refused, .ref y_document, .int 0, .int 0, .ref y_variables, .int 0, .ref y_nodes, .ref y_node, .ref y_master, .ref y_isSet, .ref y_setMany, .ref y_setFrom, .ref y_setUsed, .ref y_setText, .ref y_atStop, .ref y_isFresh, .ref y_then, .ref y_choiceMany, .ref y_choiceFrom, .ref y_choiceLong, .ref y_choiceBytes, .int 0, .ref y_text, .int 0, .int 0, .int 0, .int 0, .ref y_open, .int 0, .ref y_shown, .int 0, .int 0, .ref y_nextNode, .ref y_endNode, .ref y_made, .ref y_beganAt, .ref y_ofNode, .ref y_isOwn, .int 0, .ref y_begin, .ref y_size, .ref y_holding, .int 0, .ref y_kept, .int 0])), (y_refused, .inl (g.2 1, 3, .inl (fun _ => 0)))] H locs) (hl : lv_has ls 4 [(3, .int 0), (2, .ref y), (1, .ref x), (0, .ref bs)]) {c : Int32} (e1 : xs 1 = c) (h1 : c < 0) : W pp l ee room_1 s m #[Value.ref bs] bb mm cd H locs 973 728835 (lw_Z bb #[Value.ref bs] s) (F0 m 140 ls []) := by
  have hx := X.1
  have hb := X.2.1
  refine lv_aload_n hx hb dL_law_140 rfl (lv_at hl 2 rfl) ?_
  refine lv_aload_n hx hb dL_law_141 rfl (lv_at hl 3 rfl) ?_
  refine lv_iload_n hx hb dL_law_142 rfl (lv_at hl 0 rfl) ?_
  refine lv_iconst (v := 1) hx hb dL_law_143 (by decide) ?_
  refine lv_iadd hx hb dL_law_144 ?_
  refine r_vi (y := 1) (by decide) ?_
  refine r_sld X hX hbl h (v := xs 1) (vp_lit (by decide +kernel)) rfl dL_law_145 ?_
  refine r_vi (y := c) e1 ?_
  refine k_i X h [0] [1, 2] (wr := [(y, .inr (7, [.ref y_refused, .ref y_document, .int 0, .int 0, .ref y_variables, .int 0, .ref y_nodes, .ref y_node, .ref y_master, .ref y_isSet, .ref y_setMany, .ref y_setFrom, .ref y_setUsed, .ref y_setText, .ref y_atStop, .ref y_isFresh, .ref y_then, .ref y_choiceMany, .ref y_choiceFrom, .ref y_choiceLong, .ref y_choiceBytes, .int 0, .ref y_text, .int 0, .int 0, .int 0, .int 0, .ref y_open, .int 0, .ref y_shown, .int 0, .int 0, .ref y_nextNode, .ref y_endNode, .ref y_made, .ref y_beganAt, .ref y_ofNode, .ref y_isOwn, .int 0, .ref y_begin, .ref y_size, .ref y_holding, .int 0, .ref y_kept, .int 0])), (y_refused, .inl (g.2 1, 3, .inl (fun _ => 0)))]) rfl rfl rfl (by decide) 973 728835 (Nat.le_of_ble_eq_true rfl) (Nat.le_of_ble_eq_true rfl) (k_runV X h (As := [.int c]) (rest := []) (c6_type_lo l g H.size x tx lk pa nO dO c h1) cw_L_13 [0] rfl rfl 0 kl6 rfl rfl rfl (Nat.le_of_ble_eq_true rfl) (Nat.le_of_ble_eq_true rfl) rfl hl.1 rfl (Nat.le_of_ble_eq_true rfl) dL_law_146 (Nat.le_of_ble_eq_true rfl) (Nat.le_of_ble_eq_true rfl)) (fun _ H locs h => ?_)
  have h : ST g (LA s) s [(y, .inr (7, [.ref y_refused, .ref y_document, .int 0, .int 0, .ref y_variables, .int 0, .ref y_nodes, .ref y_node, .ref y_master, .ref y_isSet, .ref y_setMany, .ref y_setFrom, .ref y_setUsed, .ref y_setText, .ref y_atStop, .ref y_isFresh, .ref y_then, .ref y_choiceMany, .ref y_choiceFrom, .ref y_choiceLong, .ref y_choiceBytes, .int 0, .ref y_text, .int 0, .int 0, .int 0, .int 0, .ref y_open, .int 0, .ref y_shown, .int 0, .int 0, .ref y_nextNode, .ref y_endNode, .ref y_made, .ref y_beganAt, .ref y_ofNode, .ref y_isOwn, .int 0, .ref y_begin, .ref y_size, .ref y_holding, .int 0, .ref y_kept, .int 0])), (y_refused, .inl (g.2 1, 3, .inl (fun _ => 0)))] H locs := h
  refine lv_aload_n hx hb dL_law_149 rfl (lv_at hl 1 rfl) ?_
  refine lv_aload_n hx hb dL_law_150 rfl (lv_at hl 3 rfl) ?_
  refine lv_iload_n hx hb dL_law_151 rfl (lv_at hl 0 rfl) ?_
  refine lv_iconst (v := 1) hx hb dL_law_152 (by decide) ?_
  refine lv_iadd hx hb dL_law_153 ?_
  refine r_vi (y := 1) (by decide) ?_
  refine r_sld X hX hbl h (v := xs 1) (vp_lit (by decide +kernel)) rfl dL_law_154 ?_
  refine r_vi (y := c) e1 ?_
  refine k_i X h [0, 1] [] (wr := []) rfl rfl rfl (by decide) 973 728835 (Nat.le_of_ble_eq_true rfl) (Nat.le_of_ble_eq_true rfl) (k_runV X h (As := [.int c]) (rest := [.int (-2)]) (c7_type_lo l g H.size y y_refused y_document y_variables y_nodes y_node y_master y_isSet y_setMany y_setFrom y_setUsed y_setText y_atStop y_isFresh y_then y_choiceMany y_choiceFrom y_choiceLong y_choiceBytes y_text y_open y_shown y_nextNode y_endNode y_made y_beganAt y_ofNode y_isOwn y_begin y_size y_holding y_kept c h1) cw_L_17 [0, 1] rfl rfl 0 kl7 rfl rfl rfl (Nat.le_of_ble_eq_true rfl) (Nat.le_of_ble_eq_true rfl) rfl hl.1 rfl (Nat.le_of_ble_eq_true rfl) dL_law_155 (Nat.le_of_ble_eq_true rfl) (Nat.le_of_ble_eq_true rfl)) (fun _ H locs h => ?_)
  have h : ST g (LA s) s [] H locs := h
  refine lv_icmp_eq (tgt := 660) hx hb dL_law_158 (by decide) (fun c_1 => ?_) (fun c_1 => absurd (by decide) c_1)
  exact law_tail X hX hbl h (lv_sub hl [0, 3] rfl) (Nat.le_of_ble_eq_true rfl) (Nat.le_of_ble_eq_true rfl)

set_option maxHeartbeats 4000000 in
set_option maxRecDepth 100000 in
theorem lw_type_hi {nm : String} {g : GE} {pp : Program} {l : Launch} {ee : Env} {s : State} {m : MethodId} {bb : List Frame} {mm : Method} {cd : Code} {bs : Nat} {xs : Nat → Int32} {H : Heap} {locs : List Loc} {ls : Array Slot} (X : CX g pp s m mm cd #[Value.ref bs] cL_law 4 RL nm ret (LA s)) (hX : va_X bs 4 xs s s.heap) (hbl : bs < s.heap.size) {y x tx lk pa nO dO y_refused y_document y_variables y_nodes y_node y_master y_isSet y_setMany y_setFrom y_setUsed y_setText y_atStop y_isFresh y_then y_choiceMany y_choiceFrom y_choiceLong y_choiceBytes y_text y_open y_shown y_nextNode y_endNode y_made y_beganAt y_ofNode y_isOwn y_begin y_size y_holding y_kept : Nat} (h : ST g (LA s) s [(x, .inr (6, [.ref tx, .ref lk, .ref pa, .int 0, .ref nO, .ref dO, .int 0, .int 0, .int 0])), (y, .inr (7, [.ref y_refused, .ref y_document, .int 0, .int 0, .ref y_variables, .int 0, .ref y_nodes, .ref y_node, .ref y_master, .ref y_isSet, .ref y_setMany, .ref y_setFrom, .ref y_setUsed, .ref y_setText, .ref y_atStop, .ref y_isFresh, .ref y_then, .ref y_choiceMany, .ref y_choiceFrom, .ref y_choiceLong, .ref y_choiceBytes, .int 0, .ref y_text, .int 0, .int 0, .int 0, .int 0, .ref y_open, .int 0, .ref y_shown, .int 0, .int 0, .ref y_nextNode, .ref y_endNode, .ref y_made, .ref y_beganAt, .ref y_ofNode, .ref y_isOwn, .int 0, .ref y_begin, .ref y_size, .ref y_holding, .int 0, .ref y_kept, .int 0])), (y_refused, .inl (g.2 1, 3, .inl (fun _ => 0)))] H locs) (hl : lv_has ls 4 [(3, .int 0), (2, .ref y), (1, .ref x), (0, .ref bs)]) {c : Int32} (e1 : xs 1 = c) (h1 : ¬ c < 0) (h2 : 127 < c) : W pp l ee room_1 s m #[Value.ref bs] bb mm cd H locs 973 728835 (lw_Z bb #[Value.ref bs] s) (F0 m 140 ls []) := by
  have hx := X.1
  have hb := X.2.1
  refine lv_aload_n hx hb dL_law_140 rfl (lv_at hl 2 rfl) ?_
  refine lv_aload_n hx hb dL_law_141 rfl (lv_at hl 3 rfl) ?_
  refine lv_iload_n hx hb dL_law_142 rfl (lv_at hl 0 rfl) ?_
  refine lv_iconst (v := 1) hx hb dL_law_143 (by decide) ?_
  refine lv_iadd hx hb dL_law_144 ?_
  refine r_vi (y := 1) (by decide) ?_
  refine r_sld X hX hbl h (v := xs 1) (vp_lit (by decide +kernel)) rfl dL_law_145 ?_
  refine r_vi (y := c) e1 ?_
  refine k_i X h [0] [1, 2] (wr := [(y, .inr (7, [.ref y_refused, .ref y_document, .int 0, .int 0, .ref y_variables, .int 0, .ref y_nodes, .ref y_node, .ref y_master, .ref y_isSet, .ref y_setMany, .ref y_setFrom, .ref y_setUsed, .ref y_setText, .ref y_atStop, .ref y_isFresh, .ref y_then, .ref y_choiceMany, .ref y_choiceFrom, .ref y_choiceLong, .ref y_choiceBytes, .int 0, .ref y_text, .int 0, .int 0, .int 0, .int 0, .ref y_open, .int 0, .ref y_shown, .int 0, .int 0, .ref y_nextNode, .ref y_endNode, .ref y_made, .ref y_beganAt, .ref y_ofNode, .ref y_isOwn, .int 0, .ref y_begin, .ref y_size, .ref y_holding, .int 0, .ref y_kept, .int 0])), (y_refused, .inl (g.2 1, 3, .inl (fun _ => 0)))]) rfl rfl rfl (by decide) 973 728835 (Nat.le_of_ble_eq_true rfl) (Nat.le_of_ble_eq_true rfl) (k_runV X h (As := [.int c]) (rest := []) (c6_type_hi l g H.size x tx lk pa nO dO c h1 h2) cw_L_13 [0] rfl rfl 0 kl6 rfl rfl rfl (Nat.le_of_ble_eq_true rfl) (Nat.le_of_ble_eq_true rfl) rfl hl.1 rfl (Nat.le_of_ble_eq_true rfl) dL_law_146 (Nat.le_of_ble_eq_true rfl) (Nat.le_of_ble_eq_true rfl)) (fun _ H locs h => ?_)
  have h : ST g (LA s) s [(y, .inr (7, [.ref y_refused, .ref y_document, .int 0, .int 0, .ref y_variables, .int 0, .ref y_nodes, .ref y_node, .ref y_master, .ref y_isSet, .ref y_setMany, .ref y_setFrom, .ref y_setUsed, .ref y_setText, .ref y_atStop, .ref y_isFresh, .ref y_then, .ref y_choiceMany, .ref y_choiceFrom, .ref y_choiceLong, .ref y_choiceBytes, .int 0, .ref y_text, .int 0, .int 0, .int 0, .int 0, .ref y_open, .int 0, .ref y_shown, .int 0, .int 0, .ref y_nextNode, .ref y_endNode, .ref y_made, .ref y_beganAt, .ref y_ofNode, .ref y_isOwn, .int 0, .ref y_begin, .ref y_size, .ref y_holding, .int 0, .ref y_kept, .int 0])), (y_refused, .inl (g.2 1, 3, .inl (fun _ => 0)))] H locs := h
  refine lv_aload_n hx hb dL_law_149 rfl (lv_at hl 1 rfl) ?_
  refine lv_aload_n hx hb dL_law_150 rfl (lv_at hl 3 rfl) ?_
  refine lv_iload_n hx hb dL_law_151 rfl (lv_at hl 0 rfl) ?_
  refine lv_iconst (v := 1) hx hb dL_law_152 (by decide) ?_
  refine lv_iadd hx hb dL_law_153 ?_
  refine r_vi (y := 1) (by decide) ?_
  refine r_sld X hX hbl h (v := xs 1) (vp_lit (by decide +kernel)) rfl dL_law_154 ?_
  refine r_vi (y := c) e1 ?_
  refine k_i X h [0, 1] [] (wr := []) rfl rfl rfl (by decide) 973 728835 (Nat.le_of_ble_eq_true rfl) (Nat.le_of_ble_eq_true rfl) (k_runV X h (As := [.int c]) (rest := [.int (-2)]) (c7_type_hi l g H.size y y_refused y_document y_variables y_nodes y_node y_master y_isSet y_setMany y_setFrom y_setUsed y_setText y_atStop y_isFresh y_then y_choiceMany y_choiceFrom y_choiceLong y_choiceBytes y_text y_open y_shown y_nextNode y_endNode y_made y_beganAt y_ofNode y_isOwn y_begin y_size y_holding y_kept c h1 h2) cw_L_17 [0, 1] rfl rfl 0 kl7 rfl rfl rfl (Nat.le_of_ble_eq_true rfl) (Nat.le_of_ble_eq_true rfl) rfl hl.1 rfl (Nat.le_of_ble_eq_true rfl) dL_law_155 (Nat.le_of_ble_eq_true rfl) (Nat.le_of_ble_eq_true rfl)) (fun _ H locs h => ?_)
  have h : ST g (LA s) s [] H locs := h
  refine lv_icmp_eq (tgt := 660) hx hb dL_law_158 (by decide) (fun c_1 => ?_) (fun c_1 => absurd (by decide) c_1)
  exact law_tail X hX hbl h (lv_sub hl [0, 3] rfl) (Nat.le_of_ble_eq_true rfl) (Nat.le_of_ble_eq_true rfl)

set_option maxHeartbeats 4000000 in
set_option maxRecDepth 100000 in
theorem lw_type_ok {nm : String} {g : GE} {pp : Program} {l : Launch} {ee : Env} {s : State} {m : MethodId} {bb : List Frame} {mm : Method} {cd : Code} {bs : Nat} {xs : Nat → Int32} {H : Heap} {locs : List Loc} {ls : Array Slot} (X : CX g pp s m mm cd #[Value.ref bs] cL_law 4 RL nm ret (LA s)) (hX : va_X bs 4 xs s s.heap) (hbl : bs < s.heap.size) {y x tx lk pa nO dO txb y_refused y_document y_variables y_nodes y_node y_master y_isSet y_setMany y_setFrom y_setUsed y_setText y_atStop y_isFresh y_then y_choiceMany y_choiceFrom y_choiceLong y_choiceBytes y_text y_open y_shown y_nextNode y_endNode y_made y_beganAt y_ofNode y_isOwn y_begin y_size y_holding y_kept : Nat} (h : ST g (LA s) s [(x, .inr (6, [.ref tx, .ref lk, .ref pa, .int 0, .ref nO, .ref dO, .int 0, .int 0, .int 0])), (tx, .inr (2, [.int 120, .ref txb, .int 0])), (txb, .inl (g.2 0, 0, .inl (fun _ => 0))), (y, .inr (7, [.ref y_refused, .ref y_document, .int 0, .int 0, .ref y_variables, .int 0, .ref y_nodes, .ref y_node, .ref y_master, .ref y_isSet, .ref y_setMany, .ref y_setFrom, .ref y_setUsed, .ref y_setText, .ref y_atStop, .ref y_isFresh, .ref y_then, .ref y_choiceMany, .ref y_choiceFrom, .ref y_choiceLong, .ref y_choiceBytes, .int 0, .ref y_text, .int 0, .int 0, .int 0, .int 0, .ref y_open, .int 0, .ref y_shown, .int 0, .int 0, .ref y_nextNode, .ref y_endNode, .ref y_made, .ref y_beganAt, .ref y_ofNode, .ref y_isOwn, .int 0, .ref y_begin, .ref y_size, .ref y_holding, .int 0, .ref y_kept, .int 0])), (y_text, .inl (g.2 1, 120, .inl (fun _ => 0)))] H locs) (hl : lv_has ls 4 [(3, .int 0), (2, .ref y), (1, .ref x), (0, .ref bs)]) {c : Int32} (e1 : xs 1 = c) (h1 : ¬ c < 0) (h2 : ¬ 127 < c) : W pp l ee room_1 s m #[Value.ref bs] bb mm cd H locs 973 728835 (lw_Z bb #[Value.ref bs] s) (F0 m 140 ls []) := by
  have hx := X.1
  have hb := X.2.1
  refine lv_aload_n hx hb dL_law_140 rfl (lv_at hl 2 rfl) ?_
  refine lv_aload_n hx hb dL_law_141 rfl (lv_at hl 3 rfl) ?_
  refine lv_iload_n hx hb dL_law_142 rfl (lv_at hl 0 rfl) ?_
  refine lv_iconst (v := 1) hx hb dL_law_143 (by decide) ?_
  refine lv_iadd hx hb dL_law_144 ?_
  refine r_vi (y := 1) (by decide) ?_
  refine r_sld X hX hbl h (v := xs 1) (vp_lit (by decide +kernel)) rfl dL_law_145 ?_
  refine r_vi (y := c) e1 ?_
  refine k_i X h [0, 1, 2] [3, 4] (wr := [(y, .inr (7, [.ref y_refused, .ref y_document, .int 0, .int 0, .ref y_variables, .int 0, .ref y_nodes, .ref y_node, .ref y_master, .ref y_isSet, .ref y_setMany, .ref y_setFrom, .ref y_setUsed, .ref y_setText, .ref y_atStop, .ref y_isFresh, .ref y_then, .ref y_choiceMany, .ref y_choiceFrom, .ref y_choiceLong, .ref y_choiceBytes, .int 0, .ref y_text, .int 0, .int 0, .int 0, .int 0, .ref y_open, .int 0, .ref y_shown, .int 0, .int 0, .ref y_nextNode, .ref y_endNode, .ref y_made, .ref y_beganAt, .ref y_ofNode, .ref y_isOwn, .int 0, .ref y_begin, .ref y_size, .ref y_holding, .int 0, .ref y_kept, .int 0])), (y_text, .inl (g.2 1, 120, .inl (fun _ => 0)))]) rfl rfl rfl (by decide) 974 728851 (Nat.le_of_ble_eq_true rfl) (Nat.le_of_ble_eq_true rfl) (k_runV X h (As := [.int c]) (rest := []) (c6_type_ok l g H.size x tx lk pa nO dO txb c h1 h2) cw_L_13 [0, 1, 2] rfl rfl 0 kl6 rfl rfl rfl (Nat.le_of_ble_eq_true rfl) (Nat.le_of_ble_eq_true rfl) rfl hl.1 rfl (Nat.le_of_ble_eq_true rfl) dL_law_146 (Nat.le_of_ble_eq_true rfl) (Nat.le_of_ble_eq_true rfl)) (fun _ H locs h => ?_)
  have h : ST g (LA s) s [(y, .inr (7, [.ref y_refused, .ref y_document, .int 0, .int 0, .ref y_variables, .int 0, .ref y_nodes, .ref y_node, .ref y_master, .ref y_isSet, .ref y_setMany, .ref y_setFrom, .ref y_setUsed, .ref y_setText, .ref y_atStop, .ref y_isFresh, .ref y_then, .ref y_choiceMany, .ref y_choiceFrom, .ref y_choiceLong, .ref y_choiceBytes, .int 0, .ref y_text, .int 0, .int 0, .int 0, .int 0, .ref y_open, .int 0, .ref y_shown, .int 0, .int 0, .ref y_nextNode, .ref y_endNode, .ref y_made, .ref y_beganAt, .ref y_ofNode, .ref y_isOwn, .int 0, .ref y_begin, .ref y_size, .ref y_holding, .int 0, .ref y_kept, .int 0])), (y_text, .inl (g.2 1, 120, .inl (fun _ => 0)))] H locs := h
  refine lv_aload_n hx hb dL_law_149 rfl (lv_at hl 1 rfl) ?_
  refine lv_aload_n hx hb dL_law_150 rfl (lv_at hl 3 rfl) ?_
  refine lv_iload_n hx hb dL_law_151 rfl (lv_at hl 0 rfl) ?_
  refine lv_iconst (v := 1) hx hb dL_law_152 (by decide) ?_
  refine lv_iadd hx hb dL_law_153 ?_
  refine r_vi (y := 1) (by decide) ?_
  refine r_sld X hX hbl h (v := xs 1) (vp_lit (by decide +kernel)) rfl dL_law_154 ?_
  refine r_vi (y := c) e1 ?_
  refine k_i X h [0, 1] [] (wr := []) rfl rfl rfl (by decide) 974 728851 (Nat.le_of_ble_eq_true rfl) (Nat.le_of_ble_eq_true rfl) (k_runV X h (As := [.int c]) (rest := [.int 1]) (c7_type_ok l g H.size y y_refused y_document y_variables y_nodes y_node y_master y_isSet y_setMany y_setFrom y_setUsed y_setText y_atStop y_isFresh y_then y_choiceMany y_choiceFrom y_choiceLong y_choiceBytes y_text y_open y_shown y_nextNode y_endNode y_made y_beganAt y_ofNode y_isOwn y_begin y_size y_holding y_kept c h1 h2) cw_L_17 [0, 1] rfl rfl 0 kl7 rfl rfl rfl (Nat.le_of_ble_eq_true rfl) (Nat.le_of_ble_eq_true rfl) rfl hl.1 rfl (Nat.le_of_ble_eq_true rfl) dL_law_155 (Nat.le_of_ble_eq_true rfl) (Nat.le_of_ble_eq_true rfl)) (fun _ H locs h => ?_)
  have h : ST g (LA s) s [] H locs := h
  refine lv_icmp_eq (tgt := 660) hx hb dL_law_158 (by decide) (fun c_1 => ?_) (fun c_1 => absurd (by decide) c_1)
  exact law_tail X hX hbl h (lv_sub hl [0, 3] rfl) (Nat.le_of_ble_eq_true rfl) (Nat.le_of_ble_eq_true rfl)

set_option maxHeartbeats 4000000 in
set_option maxRecDepth 100000 in
theorem lw_clear {nm : String} {g : GE} {pp : Program} {l : Launch} {ee : Env} {s : State} {m : MethodId} {bb : List Frame} {mm : Method} {cd : Code} {bs : Nat} {xs : Nat → Int32} {H : Heap} {locs : List Loc} {ls : Array Slot} (X : CX g pp s m mm cd #[Value.ref bs] cL_law 4 RL nm ret (LA s)) (hX : va_X bs 4 xs s s.heap) (hbl : bs < s.heap.size) {y x tx lk pa nO dO txb y_refused y_document y_variables y_nodes y_node y_master y_isSet y_setMany y_setFrom y_setUsed y_setText y_atStop y_isFresh y_then y_choiceMany y_choiceFrom y_choiceLong y_choiceBytes y_text y_open y_shown y_nextNode y_endNode y_made y_beganAt y_ofNode y_isOwn y_begin y_size y_holding y_kept : Nat} (h : ST g (LA s) s [(x, .inr (6, [.ref tx, .ref lk, .ref pa, .int 0, .ref nO, .ref dO, .int 0, .int 0, .int 0])), (tx, .inr (2, [.int 120, .ref txb, .int 0])), (y, .inr (7, [.ref y_refused, .ref y_document, .int 0, .int 0, .ref y_variables, .int 0, .ref y_nodes, .ref y_node, .ref y_master, .ref y_isSet, .ref y_setMany, .ref y_setFrom, .ref y_setUsed, .ref y_setText, .ref y_atStop, .ref y_isFresh, .ref y_then, .ref y_choiceMany, .ref y_choiceFrom, .ref y_choiceLong, .ref y_choiceBytes, .int 0, .ref y_text, .int 0, .int 0, .int 0, .int 0, .ref y_open, .int 0, .ref y_shown, .int 0, .int 0, .ref y_nextNode, .ref y_endNode, .ref y_made, .ref y_beganAt, .ref y_ofNode, .ref y_isOwn, .int 0, .ref y_begin, .ref y_size, .ref y_holding, .int 0, .ref y_kept, .int 0]))] H locs) (hl : lv_has ls 4 [(3, .int 0), (2, .ref y), (1, .ref x), (0, .ref bs)]) : W pp l ee room_1 s m #[Value.ref bs] bb mm cd H locs 973 728835 (lw_Z bb #[Value.ref bs] s) (F0 m 163 ls []) := by
  have hx := X.1
  have hb := X.2.1
  refine lv_aload_n hx hb dL_law_163 rfl (lv_at hl 2 rfl) ?_
  refine k_i X h [0, 1] [2] (wr := [(y, .inr (7, [.ref y_refused, .ref y_document, .int 0, .int 0, .ref y_variables, .int 0, .ref y_nodes, .ref y_node, .ref y_master, .ref y_isSet, .ref y_setMany, .ref y_setFrom, .ref y_setUsed, .ref y_setText, .ref y_atStop, .ref y_isFresh, .ref y_then, .ref y_choiceMany, .ref y_choiceFrom, .ref y_choiceLong, .ref y_choiceBytes, .int 0, .ref y_text, .int 0, .int 0, .int 0, .int 0, .ref y_open, .int 0, .ref y_shown, .int 0, .int 0, .ref y_nextNode, .ref y_endNode, .ref y_made, .ref y_beganAt, .ref y_ofNode, .ref y_isOwn, .int 0, .ref y_begin, .ref y_size, .ref y_holding, .int 0, .ref y_kept, .int 0]))]) rfl rfl rfl (by decide) 973 728835 (Nat.le_of_ble_eq_true rfl) (Nat.le_of_ble_eq_true rfl) (k_runV X h (As := []) (rest := []) (c6_clear l g H.size x tx lk pa nO dO txb) cw_L_18 [0, 1] rfl rfl 0 kl6 rfl rfl rfl (Nat.le_of_ble_eq_true rfl) (Nat.le_of_ble_eq_true rfl) rfl hl.1 rfl (Nat.le_of_ble_eq_true rfl) dL_law_164 (Nat.le_of_ble_eq_true rfl) (Nat.le_of_ble_eq_true rfl)) (fun _ H locs h => ?_)
  have h : ST g (LA s) s [(y, .inr (7, [.ref y_refused, .ref y_document, .int 0, .int 0, .ref y_variables, .int 0, .ref y_nodes, .ref y_node, .ref y_master, .ref y_isSet, .ref y_setMany, .ref y_setFrom, .ref y_setUsed, .ref y_setText, .ref y_atStop, .ref y_isFresh, .ref y_then, .ref y_choiceMany, .ref y_choiceFrom, .ref y_choiceLong, .ref y_choiceBytes, .int 0, .ref y_text, .int 0, .int 0, .int 0, .int 0, .ref y_open, .int 0, .ref y_shown, .int 0, .int 0, .ref y_nextNode, .ref y_endNode, .ref y_made, .ref y_beganAt, .ref y_ofNode, .ref y_isOwn, .int 0, .ref y_begin, .ref y_size, .ref y_holding, .int 0, .ref y_kept, .int 0]))] H locs := h
  refine lv_aload_n hx hb dL_law_167 rfl (lv_at hl 1 rfl) ?_
  refine k_i X h [0] [] (wr := []) rfl rfl rfl (by decide) 973 728835 (Nat.le_of_ble_eq_true rfl) (Nat.le_of_ble_eq_true rfl) (k_runV X h (As := []) (rest := [.int 0]) (c7_clear l g H.size y y_refused y_document y_variables y_nodes y_node y_master y_isSet y_setMany y_setFrom y_setUsed y_setText y_atStop y_isFresh y_then y_choiceMany y_choiceFrom y_choiceLong y_choiceBytes y_text y_open y_shown y_nextNode y_endNode y_made y_beganAt y_ofNode y_isOwn y_begin y_size y_holding y_kept) cw_L_22 [0] rfl rfl 0 kl7 rfl rfl rfl (Nat.le_of_ble_eq_true rfl) (Nat.le_of_ble_eq_true rfl) rfl hl.1 rfl (Nat.le_of_ble_eq_true rfl) dL_law_168 (Nat.le_of_ble_eq_true rfl) (Nat.le_of_ble_eq_true rfl)) (fun _ H locs h => ?_)
  have h : ST g (LA s) s [] H locs := h
  refine lv_icmp_eq (tgt := 660) hx hb dL_law_171 (by decide) (fun c_1 => ?_) (fun c_1 => absurd (by decide) c_1)
  exact law_tail X hX hbl h (lv_sub hl [0, 3] rfl) (Nat.le_of_ble_eq_true rfl) (Nat.le_of_ble_eq_true rfl)

set_option maxHeartbeats 4000000 in
set_option maxRecDepth 100000 in
theorem lw_variable_lo {nm : String} {g : GE} {pp : Program} {l : Launch} {ee : Env} {s : State} {m : MethodId} {bb : List Frame} {mm : Method} {cd : Code} {bs : Nat} {xs : Nat → Int32} {H : Heap} {locs : List Loc} {ls : Array Slot} (X : CX g pp s m mm cd #[Value.ref bs] cL_law 4 RL nm ret (LA s)) (hX : va_X bs 4 xs s s.heap) (hbl : bs < s.heap.size) {y x tx lk pa nO dO y_refused y_document y_variables y_nodes y_node y_master y_isSet y_setMany y_setFrom y_setUsed y_setText y_atStop y_isFresh y_then y_choiceMany y_choiceFrom y_choiceLong y_choiceBytes y_text y_open y_shown y_nextNode y_endNode y_made y_beganAt y_ofNode y_isOwn y_begin y_size y_holding y_kept : Nat} (h : ST g (LA s) s [(x, .inr (6, [.ref tx, .ref lk, .ref pa, .int 0, .ref nO, .ref dO, .int 0, .int 0, .int 0])), (y, .inr (7, [.ref y_refused, .ref y_document, .int 0, .int 0, .ref y_variables, .int 0, .ref y_nodes, .ref y_node, .ref y_master, .ref y_isSet, .ref y_setMany, .ref y_setFrom, .ref y_setUsed, .ref y_setText, .ref y_atStop, .ref y_isFresh, .ref y_then, .ref y_choiceMany, .ref y_choiceFrom, .ref y_choiceLong, .ref y_choiceBytes, .int 0, .ref y_text, .int 0, .int 0, .int 0, .int 0, .ref y_open, .int 0, .ref y_shown, .int 0, .int 0, .ref y_nextNode, .ref y_endNode, .ref y_made, .ref y_beganAt, .ref y_ofNode, .ref y_isOwn, .int 0, .ref y_begin, .ref y_size, .ref y_holding, .int 0, .ref y_kept, .int 0])), (y_refused, .inl (g.2 1, 3, .inl (fun _ => 0)))] H locs) (hl : lv_has ls 4 [(3, .int 0), (2, .ref y), (1, .ref x), (0, .ref bs)]) {c : Int32} (e1 : xs 1 = c) (h1 : c < 0) : W pp l ee room_1 s m #[Value.ref bs] bb mm cd H locs 973 728835 (lw_Z bb #[Value.ref bs] s) (F0 m 176 ls []) := by
  have hx := X.1
  have hb := X.2.1
  refine lv_aload_n hx hb dL_law_176 rfl (lv_at hl 2 rfl) ?_
  refine lv_aload_n hx hb dL_law_177 rfl (lv_at hl 3 rfl) ?_
  refine lv_iload_n hx hb dL_law_178 rfl (lv_at hl 0 rfl) ?_
  refine lv_iconst (v := 1) hx hb dL_law_179 (by decide) ?_
  refine lv_iadd hx hb dL_law_180 ?_
  refine r_vi (y := 1) (by decide) ?_
  refine r_sld X hX hbl h (v := xs 1) (vp_lit (by decide +kernel)) rfl dL_law_181 ?_
  refine r_vi (y := c) e1 ?_
  refine k_i X h [0] [1, 2] (wr := [(y, .inr (7, [.ref y_refused, .ref y_document, .int 0, .int 0, .ref y_variables, .int 0, .ref y_nodes, .ref y_node, .ref y_master, .ref y_isSet, .ref y_setMany, .ref y_setFrom, .ref y_setUsed, .ref y_setText, .ref y_atStop, .ref y_isFresh, .ref y_then, .ref y_choiceMany, .ref y_choiceFrom, .ref y_choiceLong, .ref y_choiceBytes, .int 0, .ref y_text, .int 0, .int 0, .int 0, .int 0, .ref y_open, .int 0, .ref y_shown, .int 0, .int 0, .ref y_nextNode, .ref y_endNode, .ref y_made, .ref y_beganAt, .ref y_ofNode, .ref y_isOwn, .int 0, .ref y_begin, .ref y_size, .ref y_holding, .int 0, .ref y_kept, .int 0])), (y_refused, .inl (g.2 1, 3, .inl (fun _ => 0)))]) rfl rfl rfl (by decide) 973 728835 (Nat.le_of_ble_eq_true rfl) (Nat.le_of_ble_eq_true rfl) (k_runV X h (As := [.int c]) (rest := []) (c6_variable_lo l g H.size x tx lk pa nO dO c h1) cw_L_23 [0] rfl rfl 0 kl6 rfl rfl rfl (Nat.le_of_ble_eq_true rfl) (Nat.le_of_ble_eq_true rfl) rfl hl.1 rfl (Nat.le_of_ble_eq_true rfl) dL_law_182 (Nat.le_of_ble_eq_true rfl) (Nat.le_of_ble_eq_true rfl)) (fun _ H locs h => ?_)
  have h : ST g (LA s) s [(y, .inr (7, [.ref y_refused, .ref y_document, .int 0, .int 0, .ref y_variables, .int 0, .ref y_nodes, .ref y_node, .ref y_master, .ref y_isSet, .ref y_setMany, .ref y_setFrom, .ref y_setUsed, .ref y_setText, .ref y_atStop, .ref y_isFresh, .ref y_then, .ref y_choiceMany, .ref y_choiceFrom, .ref y_choiceLong, .ref y_choiceBytes, .int 0, .ref y_text, .int 0, .int 0, .int 0, .int 0, .ref y_open, .int 0, .ref y_shown, .int 0, .int 0, .ref y_nextNode, .ref y_endNode, .ref y_made, .ref y_beganAt, .ref y_ofNode, .ref y_isOwn, .int 0, .ref y_begin, .ref y_size, .ref y_holding, .int 0, .ref y_kept, .int 0])), (y_refused, .inl (g.2 1, 3, .inl (fun _ => 0)))] H locs := h
  refine lv_aload_n hx hb dL_law_185 rfl (lv_at hl 1 rfl) ?_
  refine lv_aload_n hx hb dL_law_186 rfl (lv_at hl 3 rfl) ?_
  refine lv_iload_n hx hb dL_law_187 rfl (lv_at hl 0 rfl) ?_
  refine lv_iconst (v := 1) hx hb dL_law_188 (by decide) ?_
  refine lv_iadd hx hb dL_law_189 ?_
  refine r_vi (y := 1) (by decide) ?_
  refine r_sld X hX hbl h (v := xs 1) (vp_lit (by decide +kernel)) rfl dL_law_190 ?_
  refine r_vi (y := c) e1 ?_
  refine k_i X h [0, 1] [] (wr := []) rfl rfl rfl (by decide) 973 728835 (Nat.le_of_ble_eq_true rfl) (Nat.le_of_ble_eq_true rfl) (k_runV X h (As := [.int c]) (rest := [.int (-2)]) (c7_variable_lo l g H.size y y_refused y_document y_variables y_nodes y_node y_master y_isSet y_setMany y_setFrom y_setUsed y_setText y_atStop y_isFresh y_then y_choiceMany y_choiceFrom y_choiceLong y_choiceBytes y_text y_open y_shown y_nextNode y_endNode y_made y_beganAt y_ofNode y_isOwn y_begin y_size y_holding y_kept c h1) cw_L_26 [0, 1] rfl rfl 0 kl7 rfl rfl rfl (Nat.le_of_ble_eq_true rfl) (Nat.le_of_ble_eq_true rfl) rfl hl.1 rfl (Nat.le_of_ble_eq_true rfl) dL_law_191 (Nat.le_of_ble_eq_true rfl) (Nat.le_of_ble_eq_true rfl)) (fun _ H locs h => ?_)
  have h : ST g (LA s) s [] H locs := h
  refine lv_icmp_eq (tgt := 660) hx hb dL_law_194 (by decide) (fun c_1 => ?_) (fun c_1 => absurd (by decide) c_1)
  exact law_tail X hX hbl h (lv_sub hl [0, 3] rfl) (Nat.le_of_ble_eq_true rfl) (Nat.le_of_ble_eq_true rfl)

set_option maxHeartbeats 4000000 in
set_option maxRecDepth 100000 in
theorem lw_variable_hi {nm : String} {g : GE} {pp : Program} {l : Launch} {ee : Env} {s : State} {m : MethodId} {bb : List Frame} {mm : Method} {cd : Code} {bs : Nat} {xs : Nat → Int32} {H : Heap} {locs : List Loc} {ls : Array Slot} (X : CX g pp s m mm cd #[Value.ref bs] cL_law 4 RL nm ret (LA s)) (hX : va_X bs 4 xs s s.heap) (hbl : bs < s.heap.size) {y x tx lk pa nO dO y_refused y_document y_variables y_nodes y_node y_master y_isSet y_setMany y_setFrom y_setUsed y_setText y_atStop y_isFresh y_then y_choiceMany y_choiceFrom y_choiceLong y_choiceBytes y_text y_open y_shown y_nextNode y_endNode y_made y_beganAt y_ofNode y_isOwn y_begin y_size y_holding y_kept : Nat} (h : ST g (LA s) s [(x, .inr (6, [.ref tx, .ref lk, .ref pa, .int 0, .ref nO, .ref dO, .int 0, .int 0, .int 0])), (y, .inr (7, [.ref y_refused, .ref y_document, .int 0, .int 0, .ref y_variables, .int 0, .ref y_nodes, .ref y_node, .ref y_master, .ref y_isSet, .ref y_setMany, .ref y_setFrom, .ref y_setUsed, .ref y_setText, .ref y_atStop, .ref y_isFresh, .ref y_then, .ref y_choiceMany, .ref y_choiceFrom, .ref y_choiceLong, .ref y_choiceBytes, .int 0, .ref y_text, .int 0, .int 0, .int 0, .int 0, .ref y_open, .int 0, .ref y_shown, .int 0, .int 0, .ref y_nextNode, .ref y_endNode, .ref y_made, .ref y_beganAt, .ref y_ofNode, .ref y_isOwn, .int 0, .ref y_begin, .ref y_size, .ref y_holding, .int 0, .ref y_kept, .int 0])), (y_refused, .inl (g.2 1, 3, .inl (fun _ => 0)))] H locs) (hl : lv_has ls 4 [(3, .int 0), (2, .ref y), (1, .ref x), (0, .ref bs)]) {c : Int32} (e1 : xs 1 = c) (h1 : ¬ c < 0) (h2 : 3 < c) (h3 : 4 ≤ c) : W pp l ee room_1 s m #[Value.ref bs] bb mm cd H locs 973 728835 (lw_Z bb #[Value.ref bs] s) (F0 m 176 ls []) := by
  have hx := X.1
  have hb := X.2.1
  refine lv_aload_n hx hb dL_law_176 rfl (lv_at hl 2 rfl) ?_
  refine lv_aload_n hx hb dL_law_177 rfl (lv_at hl 3 rfl) ?_
  refine lv_iload_n hx hb dL_law_178 rfl (lv_at hl 0 rfl) ?_
  refine lv_iconst (v := 1) hx hb dL_law_179 (by decide) ?_
  refine lv_iadd hx hb dL_law_180 ?_
  refine r_vi (y := 1) (by decide) ?_
  refine r_sld X hX hbl h (v := xs 1) (vp_lit (by decide +kernel)) rfl dL_law_181 ?_
  refine r_vi (y := c) e1 ?_
  refine k_i X h [0] [1, 2] (wr := [(y, .inr (7, [.ref y_refused, .ref y_document, .int 0, .int 0, .ref y_variables, .int 0, .ref y_nodes, .ref y_node, .ref y_master, .ref y_isSet, .ref y_setMany, .ref y_setFrom, .ref y_setUsed, .ref y_setText, .ref y_atStop, .ref y_isFresh, .ref y_then, .ref y_choiceMany, .ref y_choiceFrom, .ref y_choiceLong, .ref y_choiceBytes, .int 0, .ref y_text, .int 0, .int 0, .int 0, .int 0, .ref y_open, .int 0, .ref y_shown, .int 0, .int 0, .ref y_nextNode, .ref y_endNode, .ref y_made, .ref y_beganAt, .ref y_ofNode, .ref y_isOwn, .int 0, .ref y_begin, .ref y_size, .ref y_holding, .int 0, .ref y_kept, .int 0])), (y_refused, .inl (g.2 1, 3, .inl (fun _ => 0)))]) rfl rfl rfl (by decide) 973 728835 (Nat.le_of_ble_eq_true rfl) (Nat.le_of_ble_eq_true rfl) (k_runV X h (As := [.int c]) (rest := []) (c6_variable_hi l g H.size x tx lk pa nO dO c h1 h2 h3) cw_L_23 [0] rfl rfl 0 kl6 rfl rfl rfl (Nat.le_of_ble_eq_true rfl) (Nat.le_of_ble_eq_true rfl) rfl hl.1 rfl (Nat.le_of_ble_eq_true rfl) dL_law_182 (Nat.le_of_ble_eq_true rfl) (Nat.le_of_ble_eq_true rfl)) (fun _ H locs h => ?_)
  have h : ST g (LA s) s [(y, .inr (7, [.ref y_refused, .ref y_document, .int 0, .int 0, .ref y_variables, .int 0, .ref y_nodes, .ref y_node, .ref y_master, .ref y_isSet, .ref y_setMany, .ref y_setFrom, .ref y_setUsed, .ref y_setText, .ref y_atStop, .ref y_isFresh, .ref y_then, .ref y_choiceMany, .ref y_choiceFrom, .ref y_choiceLong, .ref y_choiceBytes, .int 0, .ref y_text, .int 0, .int 0, .int 0, .int 0, .ref y_open, .int 0, .ref y_shown, .int 0, .int 0, .ref y_nextNode, .ref y_endNode, .ref y_made, .ref y_beganAt, .ref y_ofNode, .ref y_isOwn, .int 0, .ref y_begin, .ref y_size, .ref y_holding, .int 0, .ref y_kept, .int 0])), (y_refused, .inl (g.2 1, 3, .inl (fun _ => 0)))] H locs := h
  refine lv_aload_n hx hb dL_law_185 rfl (lv_at hl 1 rfl) ?_
  refine lv_aload_n hx hb dL_law_186 rfl (lv_at hl 3 rfl) ?_
  refine lv_iload_n hx hb dL_law_187 rfl (lv_at hl 0 rfl) ?_
  refine lv_iconst (v := 1) hx hb dL_law_188 (by decide) ?_
  refine lv_iadd hx hb dL_law_189 ?_
  refine r_vi (y := 1) (by decide) ?_
  refine r_sld X hX hbl h (v := xs 1) (vp_lit (by decide +kernel)) rfl dL_law_190 ?_
  refine r_vi (y := c) e1 ?_
  refine k_i X h [0, 1] [] (wr := []) rfl rfl rfl (by decide) 973 728835 (Nat.le_of_ble_eq_true rfl) (Nat.le_of_ble_eq_true rfl) (k_runV X h (As := [.int c]) (rest := [.int (-2)]) (c7_variable_hi l g H.size y y_refused y_document y_variables y_nodes y_node y_master y_isSet y_setMany y_setFrom y_setUsed y_setText y_atStop y_isFresh y_then y_choiceMany y_choiceFrom y_choiceLong y_choiceBytes y_text y_open y_shown y_nextNode y_endNode y_made y_beganAt y_ofNode y_isOwn y_begin y_size y_holding y_kept c h1 h2 h3) cw_L_26 [0, 1] rfl rfl 0 kl7 rfl rfl rfl (Nat.le_of_ble_eq_true rfl) (Nat.le_of_ble_eq_true rfl) rfl hl.1 rfl (Nat.le_of_ble_eq_true rfl) dL_law_191 (Nat.le_of_ble_eq_true rfl) (Nat.le_of_ble_eq_true rfl)) (fun _ H locs h => ?_)
  have h : ST g (LA s) s [] H locs := h
  refine lv_icmp_eq (tgt := 660) hx hb dL_law_194 (by decide) (fun c_1 => ?_) (fun c_1 => absurd (by decide) c_1)
  exact law_tail X hX hbl h (lv_sub hl [0, 3] rfl) (Nat.le_of_ble_eq_true rfl) (Nat.le_of_ble_eq_true rfl)

set_option maxHeartbeats 4000000 in
set_option maxRecDepth 100000 in
theorem lw_variable_v0 {nm : String} {g : GE} {pp : Program} {l : Launch} {ee : Env} {s : State} {m : MethodId} {bb : List Frame} {mm : Method} {cd : Code} {bs : Nat} {xs : Nat → Int32} {H : Heap} {locs : List Loc} {ls : Array Slot} (X : CX g pp s m mm cd #[Value.ref bs] cL_law 4 RL nm ret (LA s)) (hX : va_X bs 4 xs s s.heap) (hbl : bs < s.heap.size) {y x tx lk pa nO dO txb p0 p1 p2 p3 p4 p5 p6 p7 np nv ns nsh npb nv0 nv1 nv2 nv3 nv0b nv1b nv2b nv3b dp dv ds dsh dpb dv0 dv1 dv2 dv3 dv0b dv1b dv2b dv3b ds0 ds1 ds2 dshb y_refused y_document y_variables y_nodes y_node y_master y_isSet y_setMany y_setFrom y_setUsed y_setText y_atStop y_isFresh y_then y_choiceMany y_choiceFrom y_choiceLong y_choiceBytes y_text y_open y_shown y_nextNode y_endNode y_made y_beganAt y_ofNode y_isOwn y_begin y_size y_holding y_kept : Nat} (h : ST g (LA s) s [(x, .inr (6, [.ref tx, .ref lk, .ref pa, .int 0, .ref nO, .ref dO, .int 0, .int 0, .int 0])), (tx, .inr (2, [.int 120, .ref txb, .int 0])), (pa, .inl (g.2 6, 8, .inr (.inr (.inr (.inr (va_up (va_up (va_up (va_up (va_up (va_up (va_up (va_up (fun _ => none) 0 (some p0)) 1 (some p1)) 2 (some p2)) 3 (some p3)) 4 (some p4)) 5 (some p5)) 6 (some p6)) 7 (some p7))))))), (nO, .inr (4, [.ref np, .int 0, .ref nv, .ref ns, .int 0, .ref nsh])), (np, .inr (2, [.int 241, .ref npb, .int 0])), (nv, .inl (g.2 4, 4, .inr (.inr (.inr (.inr (va_up (va_up (va_up (va_up (fun _ => none) 0 (some nv0)) 1 (some nv1)) 2 (some nv2)) 3 (some nv3))))))), (nv0, .inr (2, [.int 12, .ref nv0b, .int 0])), (nv1, .inr (2, [.int 12, .ref nv1b, .int 0])), (nv2, .inr (2, [.int 12, .ref nv2b, .int 0])), (nv3, .inr (2, [.int 12, .ref nv3b, .int 0])), (dO, .inr (4, [.ref dp, .int 0, .ref dv, .ref ds, .int 0, .ref dsh])), (dp, .inr (2, [.int 241, .ref dpb, .int 0])), (dv, .inl (g.2 4, 4, .inr (.inr (.inr (.inr (va_up (va_up (va_up (va_up (fun _ => none) 0 (some dv0)) 1 (some dv1)) 2 (some dv2)) 3 (some dv3))))))), (dv0, .inr (2, [.int 12, .ref dv0b, .int 0])), (dv1, .inr (2, [.int 12, .ref dv1b, .int 0])), (dv2, .inr (2, [.int 12, .ref dv2b, .int 0])), (dv3, .inr (2, [.int 12, .ref dv3b, .int 0])), (ds, .inl (g.2 5, 3, .inr (.inr (.inr (.inr (va_up (va_up (va_up (fun _ => none) 0 (some ds0)) 1 (some ds1)) 2 (some ds2))))))), (dsh, .inr (2, [.int 241, .ref dshb, .int 0])), (y, .inr (7, [.ref y_refused, .ref y_document, .int 0, .int 0, .ref y_variables, .int 0, .ref y_nodes, .ref y_node, .ref y_master, .ref y_isSet, .ref y_setMany, .ref y_setFrom, .ref y_setUsed, .ref y_setText, .ref y_atStop, .ref y_isFresh, .ref y_then, .ref y_choiceMany, .ref y_choiceFrom, .ref y_choiceLong, .ref y_choiceBytes, .int 0, .ref y_text, .int 0, .int 0, .int 0, .int 0, .ref y_open, .int 0, .ref y_shown, .int 0, .int 0, .ref y_nextNode, .ref y_endNode, .ref y_made, .ref y_beganAt, .ref y_ofNode, .ref y_isOwn, .int 0, .ref y_begin, .ref y_size, .ref y_holding, .int 0, .ref y_kept, .int 0])), (y_document, .inl (g.2 1, 240, .inl (fun _ => 0))), (y_variables, .inl (g.2 1, 52, .inl (fun _ => 0))), (y_kept, .inl (g.2 1, 630000, .inl (fun _ => 0)))] H locs) (hl : lv_has ls 4 [(3, .int 0), (2, .ref y), (1, .ref x), (0, .ref bs)]) (e1 : xs 1 = 0) : W pp l ee room_1 s m #[Value.ref bs] bb mm cd H locs 973 728835 (lw_Z bb #[Value.ref bs] s) (F0 m 176 ls []) := by
  have hx := X.1
  have hb := X.2.1
  refine lv_aload_n hx hb dL_law_176 rfl (lv_at hl 2 rfl) ?_
  refine lv_aload_n hx hb dL_law_177 rfl (lv_at hl 3 rfl) ?_
  refine lv_iload_n hx hb dL_law_178 rfl (lv_at hl 0 rfl) ?_
  refine lv_iconst (v := 1) hx hb dL_law_179 (by decide) ?_
  refine lv_iadd hx hb dL_law_180 ?_
  refine r_vi (y := 1) (by decide) ?_
  refine r_sld X hX hbl h (v := xs 1) (vp_lit (by decide +kernel)) rfl dL_law_181 ?_
  refine r_vi (y := 0) e1 ?_
  refine k_i X h [0, 1, 2, 3, 4, 5, 6, 7, 8, 9, 10, 11, 12, 13, 14, 15, 16, 17, 18] [19, 20, 21, 22] (wr := [(y, .inr (7, [.ref y_refused, .ref y_document, .int 0, .int 0, .ref y_variables, .int 0, .ref y_nodes, .ref y_node, .ref y_master, .ref y_isSet, .ref y_setMany, .ref y_setFrom, .ref y_setUsed, .ref y_setText, .ref y_atStop, .ref y_isFresh, .ref y_then, .ref y_choiceMany, .ref y_choiceFrom, .ref y_choiceLong, .ref y_choiceBytes, .int 0, .ref y_text, .int 0, .int 0, .int 0, .int 0, .ref y_open, .int 0, .ref y_shown, .int 0, .int 0, .ref y_nextNode, .ref y_endNode, .ref y_made, .ref y_beganAt, .ref y_ofNode, .ref y_isOwn, .int 0, .ref y_begin, .ref y_size, .ref y_holding, .int 0, .ref y_kept, .int 0])), (y_document, .inl (g.2 1, 240, .inl (fun _ => 0))), (y_variables, .inl (g.2 1, 52, .inl (fun _ => 0))), (y_kept, .inl (g.2 1, 630000, .inl (fun _ => 0)))]) rfl rfl rfl (by decide) 973 728835 (Nat.le_of_ble_eq_true rfl) (Nat.le_of_ble_eq_true rfl) (k_runV X h (As := [.int 0]) (rest := []) (c6_variable_v0 l g H.size x tx lk pa nO dO txb p0 p1 p2 p3 p4 p5 p6 p7 np nv ns nsh npb nv0 nv1 nv2 nv3 nv0b nv1b nv2b nv3b dp dv ds dsh dpb dv0 dv1 dv2 dv3 dv0b dv1b dv2b dv3b ds0 ds1 ds2 dshb) cw_L_23 [0, 1, 2, 3, 4, 5, 6, 7, 8, 9, 10, 11, 12, 13, 14, 15, 16, 17, 18] rfl rfl 0 kl6 rfl rfl rfl (Nat.le_of_ble_eq_true rfl) (Nat.le_of_ble_eq_true rfl) rfl hl.1 rfl (Nat.le_of_ble_eq_true rfl) dL_law_182 (Nat.le_of_ble_eq_true rfl) (Nat.le_of_ble_eq_true rfl)) (fun _ H locs h => ?_)
  have h : ST g (LA s) s [(y, .inr (7, [.ref y_refused, .ref y_document, .int 0, .int 0, .ref y_variables, .int 0, .ref y_nodes, .ref y_node, .ref y_master, .ref y_isSet, .ref y_setMany, .ref y_setFrom, .ref y_setUsed, .ref y_setText, .ref y_atStop, .ref y_isFresh, .ref y_then, .ref y_choiceMany, .ref y_choiceFrom, .ref y_choiceLong, .ref y_choiceBytes, .int 0, .ref y_text, .int 0, .int 0, .int 0, .int 0, .ref y_open, .int 0, .ref y_shown, .int 0, .int 0, .ref y_nextNode, .ref y_endNode, .ref y_made, .ref y_beganAt, .ref y_ofNode, .ref y_isOwn, .int 0, .ref y_begin, .ref y_size, .ref y_holding, .int 0, .ref y_kept, .int 0])), (y_document, .inl (g.2 1, 240, .inl (fun _ => 0))), (y_variables, .inl (g.2 1, 52, .inl (fun _ => 0))), (y_kept, .inl (g.2 1, 630000, .inl (fun _ => 0)))] H locs := h
  refine lv_aload_n hx hb dL_law_185 rfl (lv_at hl 1 rfl) ?_
  refine lv_aload_n hx hb dL_law_186 rfl (lv_at hl 3 rfl) ?_
  refine lv_iload_n hx hb dL_law_187 rfl (lv_at hl 0 rfl) ?_
  refine lv_iconst (v := 1) hx hb dL_law_188 (by decide) ?_
  refine lv_iadd hx hb dL_law_189 ?_
  refine r_vi (y := 1) (by decide) ?_
  refine r_sld X hX hbl h (v := xs 1) (vp_lit (by decide +kernel)) rfl dL_law_190 ?_
  refine r_vi (y := 0) e1 ?_
  refine k_i X h [0, 1, 2, 3] [] (wr := []) rfl rfl rfl (by decide) 973 728835 (Nat.le_of_ble_eq_true rfl) (Nat.le_of_ble_eq_true rfl) (k_runV X h (As := [.int 0]) (rest := [.int 0]) (c7_variable_v0 l g H.size y y_refused y_document y_variables y_nodes y_node y_master y_isSet y_setMany y_setFrom y_setUsed y_setText y_atStop y_isFresh y_then y_choiceMany y_choiceFrom y_choiceLong y_choiceBytes y_text y_open y_shown y_nextNode y_endNode y_made y_beganAt y_ofNode y_isOwn y_begin y_size y_holding y_kept) cw_L_26 [0, 1, 2, 3] rfl rfl 0 kl7 rfl rfl rfl (Nat.le_of_ble_eq_true rfl) (Nat.le_of_ble_eq_true rfl) rfl hl.1 rfl (Nat.le_of_ble_eq_true rfl) dL_law_191 (Nat.le_of_ble_eq_true rfl) (Nat.le_of_ble_eq_true rfl)) (fun _ H locs h => ?_)
  have h : ST g (LA s) s [] H locs := h
  refine lv_icmp_eq (tgt := 660) hx hb dL_law_194 (by decide) (fun c_1 => ?_) (fun c_1 => absurd (by decide) c_1)
  exact law_tail X hX hbl h (lv_sub hl [0, 3] rfl) (Nat.le_of_ble_eq_true rfl) (Nat.le_of_ble_eq_true rfl)

set_option maxHeartbeats 4000000 in
set_option maxRecDepth 100000 in
theorem lw_variable_v1 {nm : String} {g : GE} {pp : Program} {l : Launch} {ee : Env} {s : State} {m : MethodId} {bb : List Frame} {mm : Method} {cd : Code} {bs : Nat} {xs : Nat → Int32} {H : Heap} {locs : List Loc} {ls : Array Slot} (X : CX g pp s m mm cd #[Value.ref bs] cL_law 4 RL nm ret (LA s)) (hX : va_X bs 4 xs s s.heap) (hbl : bs < s.heap.size) {y x tx lk pa nO dO txb p0 p1 p2 p3 p4 p5 p6 p7 np nv ns nsh npb nv0 nv1 nv2 nv3 nv0b nv1b nv2b nv3b dp dv ds dsh dpb dv0 dv1 dv2 dv3 dv0b dv1b dv2b dv3b ds0 ds1 ds2 dshb y_refused y_document y_variables y_nodes y_node y_master y_isSet y_setMany y_setFrom y_setUsed y_setText y_atStop y_isFresh y_then y_choiceMany y_choiceFrom y_choiceLong y_choiceBytes y_text y_open y_shown y_nextNode y_endNode y_made y_beganAt y_ofNode y_isOwn y_begin y_size y_holding y_kept : Nat} (h : ST g (LA s) s [(x, .inr (6, [.ref tx, .ref lk, .ref pa, .int 0, .ref nO, .ref dO, .int 0, .int 0, .int 0])), (tx, .inr (2, [.int 120, .ref txb, .int 0])), (pa, .inl (g.2 6, 8, .inr (.inr (.inr (.inr (va_up (va_up (va_up (va_up (va_up (va_up (va_up (va_up (fun _ => none) 0 (some p0)) 1 (some p1)) 2 (some p2)) 3 (some p3)) 4 (some p4)) 5 (some p5)) 6 (some p6)) 7 (some p7))))))), (nO, .inr (4, [.ref np, .int 0, .ref nv, .ref ns, .int 0, .ref nsh])), (np, .inr (2, [.int 241, .ref npb, .int 0])), (nv, .inl (g.2 4, 4, .inr (.inr (.inr (.inr (va_up (va_up (va_up (va_up (fun _ => none) 0 (some nv0)) 1 (some nv1)) 2 (some nv2)) 3 (some nv3))))))), (nv0, .inr (2, [.int 12, .ref nv0b, .int 0])), (nv1, .inr (2, [.int 12, .ref nv1b, .int 0])), (nv2, .inr (2, [.int 12, .ref nv2b, .int 0])), (nv3, .inr (2, [.int 12, .ref nv3b, .int 0])), (dO, .inr (4, [.ref dp, .int 0, .ref dv, .ref ds, .int 0, .ref dsh])), (dp, .inr (2, [.int 241, .ref dpb, .int 0])), (dv, .inl (g.2 4, 4, .inr (.inr (.inr (.inr (va_up (va_up (va_up (va_up (fun _ => none) 0 (some dv0)) 1 (some dv1)) 2 (some dv2)) 3 (some dv3))))))), (dv0, .inr (2, [.int 12, .ref dv0b, .int 0])), (dv1, .inr (2, [.int 12, .ref dv1b, .int 0])), (dv2, .inr (2, [.int 12, .ref dv2b, .int 0])), (dv3, .inr (2, [.int 12, .ref dv3b, .int 0])), (ds, .inl (g.2 5, 3, .inr (.inr (.inr (.inr (va_up (va_up (va_up (fun _ => none) 0 (some ds0)) 1 (some ds1)) 2 (some ds2))))))), (dsh, .inr (2, [.int 241, .ref dshb, .int 0])), (y, .inr (7, [.ref y_refused, .ref y_document, .int 0, .int 0, .ref y_variables, .int 0, .ref y_nodes, .ref y_node, .ref y_master, .ref y_isSet, .ref y_setMany, .ref y_setFrom, .ref y_setUsed, .ref y_setText, .ref y_atStop, .ref y_isFresh, .ref y_then, .ref y_choiceMany, .ref y_choiceFrom, .ref y_choiceLong, .ref y_choiceBytes, .int 0, .ref y_text, .int 0, .int 0, .int 0, .int 0, .ref y_open, .int 0, .ref y_shown, .int 0, .int 0, .ref y_nextNode, .ref y_endNode, .ref y_made, .ref y_beganAt, .ref y_ofNode, .ref y_isOwn, .int 0, .ref y_begin, .ref y_size, .ref y_holding, .int 0, .ref y_kept, .int 0])), (y_document, .inl (g.2 1, 240, .inl (fun _ => 0))), (y_variables, .inl (g.2 1, 52, .inl (fun _ => 0))), (y_kept, .inl (g.2 1, 630000, .inl (fun _ => 0)))] H locs) (hl : lv_has ls 4 [(3, .int 0), (2, .ref y), (1, .ref x), (0, .ref bs)]) (e1 : xs 1 = 1) : W pp l ee room_1 s m #[Value.ref bs] bb mm cd H locs 973 728835 (lw_Z bb #[Value.ref bs] s) (F0 m 176 ls []) := by
  have hx := X.1
  have hb := X.2.1
  refine lv_aload_n hx hb dL_law_176 rfl (lv_at hl 2 rfl) ?_
  refine lv_aload_n hx hb dL_law_177 rfl (lv_at hl 3 rfl) ?_
  refine lv_iload_n hx hb dL_law_178 rfl (lv_at hl 0 rfl) ?_
  refine lv_iconst (v := 1) hx hb dL_law_179 (by decide) ?_
  refine lv_iadd hx hb dL_law_180 ?_
  refine r_vi (y := 1) (by decide) ?_
  refine r_sld X hX hbl h (v := xs 1) (vp_lit (by decide +kernel)) rfl dL_law_181 ?_
  refine r_vi (y := 1) e1 ?_
  refine k_i X h [0, 1, 2, 3, 4, 5, 6, 7, 8, 9, 10, 11, 12, 13, 14, 15, 16, 17, 18] [19, 20, 21, 22] (wr := [(y, .inr (7, [.ref y_refused, .ref y_document, .int 0, .int 0, .ref y_variables, .int 0, .ref y_nodes, .ref y_node, .ref y_master, .ref y_isSet, .ref y_setMany, .ref y_setFrom, .ref y_setUsed, .ref y_setText, .ref y_atStop, .ref y_isFresh, .ref y_then, .ref y_choiceMany, .ref y_choiceFrom, .ref y_choiceLong, .ref y_choiceBytes, .int 0, .ref y_text, .int 0, .int 0, .int 0, .int 0, .ref y_open, .int 0, .ref y_shown, .int 0, .int 0, .ref y_nextNode, .ref y_endNode, .ref y_made, .ref y_beganAt, .ref y_ofNode, .ref y_isOwn, .int 0, .ref y_begin, .ref y_size, .ref y_holding, .int 0, .ref y_kept, .int 0])), (y_document, .inl (g.2 1, 240, .inl (fun _ => 0))), (y_variables, .inl (g.2 1, 52, .inl (fun _ => 0))), (y_kept, .inl (g.2 1, 630000, .inl (fun _ => 0)))]) rfl rfl rfl (by decide) 973 728835 (Nat.le_of_ble_eq_true rfl) (Nat.le_of_ble_eq_true rfl) (k_runV X h (As := [.int 1]) (rest := []) (c6_variable_v1 l g H.size x tx lk pa nO dO txb p0 p1 p2 p3 p4 p5 p6 p7 np nv ns nsh npb nv0 nv1 nv2 nv3 nv0b nv1b nv2b nv3b dp dv ds dsh dpb dv0 dv1 dv2 dv3 dv0b dv1b dv2b dv3b ds0 ds1 ds2 dshb) cw_L_23 [0, 1, 2, 3, 4, 5, 6, 7, 8, 9, 10, 11, 12, 13, 14, 15, 16, 17, 18] rfl rfl 0 kl6 rfl rfl rfl (Nat.le_of_ble_eq_true rfl) (Nat.le_of_ble_eq_true rfl) rfl hl.1 rfl (Nat.le_of_ble_eq_true rfl) dL_law_182 (Nat.le_of_ble_eq_true rfl) (Nat.le_of_ble_eq_true rfl)) (fun _ H locs h => ?_)
  have h : ST g (LA s) s [(y, .inr (7, [.ref y_refused, .ref y_document, .int 0, .int 0, .ref y_variables, .int 0, .ref y_nodes, .ref y_node, .ref y_master, .ref y_isSet, .ref y_setMany, .ref y_setFrom, .ref y_setUsed, .ref y_setText, .ref y_atStop, .ref y_isFresh, .ref y_then, .ref y_choiceMany, .ref y_choiceFrom, .ref y_choiceLong, .ref y_choiceBytes, .int 0, .ref y_text, .int 0, .int 0, .int 0, .int 0, .ref y_open, .int 0, .ref y_shown, .int 0, .int 0, .ref y_nextNode, .ref y_endNode, .ref y_made, .ref y_beganAt, .ref y_ofNode, .ref y_isOwn, .int 0, .ref y_begin, .ref y_size, .ref y_holding, .int 0, .ref y_kept, .int 0])), (y_document, .inl (g.2 1, 240, .inl (fun _ => 0))), (y_variables, .inl (g.2 1, 52, .inl (fun _ => 0))), (y_kept, .inl (g.2 1, 630000, .inl (fun _ => 0)))] H locs := h
  refine lv_aload_n hx hb dL_law_185 rfl (lv_at hl 1 rfl) ?_
  refine lv_aload_n hx hb dL_law_186 rfl (lv_at hl 3 rfl) ?_
  refine lv_iload_n hx hb dL_law_187 rfl (lv_at hl 0 rfl) ?_
  refine lv_iconst (v := 1) hx hb dL_law_188 (by decide) ?_
  refine lv_iadd hx hb dL_law_189 ?_
  refine r_vi (y := 1) (by decide) ?_
  refine r_sld X hX hbl h (v := xs 1) (vp_lit (by decide +kernel)) rfl dL_law_190 ?_
  refine r_vi (y := 1) e1 ?_
  refine k_i X h [0, 1, 2, 3] [] (wr := []) rfl rfl rfl (by decide) 973 728835 (Nat.le_of_ble_eq_true rfl) (Nat.le_of_ble_eq_true rfl) (k_runV X h (As := [.int 1]) (rest := [.int 0]) (c7_variable_v1 l g H.size y y_refused y_document y_variables y_nodes y_node y_master y_isSet y_setMany y_setFrom y_setUsed y_setText y_atStop y_isFresh y_then y_choiceMany y_choiceFrom y_choiceLong y_choiceBytes y_text y_open y_shown y_nextNode y_endNode y_made y_beganAt y_ofNode y_isOwn y_begin y_size y_holding y_kept) cw_L_26 [0, 1, 2, 3] rfl rfl 0 kl7 rfl rfl rfl (Nat.le_of_ble_eq_true rfl) (Nat.le_of_ble_eq_true rfl) rfl hl.1 rfl (Nat.le_of_ble_eq_true rfl) dL_law_191 (Nat.le_of_ble_eq_true rfl) (Nat.le_of_ble_eq_true rfl)) (fun _ H locs h => ?_)
  have h : ST g (LA s) s [] H locs := h
  refine lv_icmp_eq (tgt := 660) hx hb dL_law_194 (by decide) (fun c_1 => ?_) (fun c_1 => absurd (by decide) c_1)
  exact law_tail X hX hbl h (lv_sub hl [0, 3] rfl) (Nat.le_of_ble_eq_true rfl) (Nat.le_of_ble_eq_true rfl)

set_option maxHeartbeats 4000000 in
set_option maxRecDepth 100000 in
theorem lw_variable_v2 {nm : String} {g : GE} {pp : Program} {l : Launch} {ee : Env} {s : State} {m : MethodId} {bb : List Frame} {mm : Method} {cd : Code} {bs : Nat} {xs : Nat → Int32} {H : Heap} {locs : List Loc} {ls : Array Slot} (X : CX g pp s m mm cd #[Value.ref bs] cL_law 4 RL nm ret (LA s)) (hX : va_X bs 4 xs s s.heap) (hbl : bs < s.heap.size) {y x tx lk pa nO dO txb p0 p1 p2 p3 p4 p5 p6 p7 np nv ns nsh npb nv0 nv1 nv2 nv3 nv0b nv1b nv2b nv3b dp dv ds dsh dpb dv0 dv1 dv2 dv3 dv0b dv1b dv2b dv3b ds0 ds1 ds2 dshb y_refused y_document y_variables y_nodes y_node y_master y_isSet y_setMany y_setFrom y_setUsed y_setText y_atStop y_isFresh y_then y_choiceMany y_choiceFrom y_choiceLong y_choiceBytes y_text y_open y_shown y_nextNode y_endNode y_made y_beganAt y_ofNode y_isOwn y_begin y_size y_holding y_kept : Nat} (h : ST g (LA s) s [(x, .inr (6, [.ref tx, .ref lk, .ref pa, .int 0, .ref nO, .ref dO, .int 0, .int 0, .int 0])), (tx, .inr (2, [.int 120, .ref txb, .int 0])), (pa, .inl (g.2 6, 8, .inr (.inr (.inr (.inr (va_up (va_up (va_up (va_up (va_up (va_up (va_up (va_up (fun _ => none) 0 (some p0)) 1 (some p1)) 2 (some p2)) 3 (some p3)) 4 (some p4)) 5 (some p5)) 6 (some p6)) 7 (some p7))))))), (nO, .inr (4, [.ref np, .int 0, .ref nv, .ref ns, .int 0, .ref nsh])), (np, .inr (2, [.int 241, .ref npb, .int 0])), (nv, .inl (g.2 4, 4, .inr (.inr (.inr (.inr (va_up (va_up (va_up (va_up (fun _ => none) 0 (some nv0)) 1 (some nv1)) 2 (some nv2)) 3 (some nv3))))))), (nv0, .inr (2, [.int 12, .ref nv0b, .int 0])), (nv1, .inr (2, [.int 12, .ref nv1b, .int 0])), (nv2, .inr (2, [.int 12, .ref nv2b, .int 0])), (nv3, .inr (2, [.int 12, .ref nv3b, .int 0])), (dO, .inr (4, [.ref dp, .int 0, .ref dv, .ref ds, .int 0, .ref dsh])), (dp, .inr (2, [.int 241, .ref dpb, .int 0])), (dv, .inl (g.2 4, 4, .inr (.inr (.inr (.inr (va_up (va_up (va_up (va_up (fun _ => none) 0 (some dv0)) 1 (some dv1)) 2 (some dv2)) 3 (some dv3))))))), (dv0, .inr (2, [.int 12, .ref dv0b, .int 0])), (dv1, .inr (2, [.int 12, .ref dv1b, .int 0])), (dv2, .inr (2, [.int 12, .ref dv2b, .int 0])), (dv3, .inr (2, [.int 12, .ref dv3b, .int 0])), (ds, .inl (g.2 5, 3, .inr (.inr (.inr (.inr (va_up (va_up (va_up (fun _ => none) 0 (some ds0)) 1 (some ds1)) 2 (some ds2))))))), (dsh, .inr (2, [.int 241, .ref dshb, .int 0])), (y, .inr (7, [.ref y_refused, .ref y_document, .int 0, .int 0, .ref y_variables, .int 0, .ref y_nodes, .ref y_node, .ref y_master, .ref y_isSet, .ref y_setMany, .ref y_setFrom, .ref y_setUsed, .ref y_setText, .ref y_atStop, .ref y_isFresh, .ref y_then, .ref y_choiceMany, .ref y_choiceFrom, .ref y_choiceLong, .ref y_choiceBytes, .int 0, .ref y_text, .int 0, .int 0, .int 0, .int 0, .ref y_open, .int 0, .ref y_shown, .int 0, .int 0, .ref y_nextNode, .ref y_endNode, .ref y_made, .ref y_beganAt, .ref y_ofNode, .ref y_isOwn, .int 0, .ref y_begin, .ref y_size, .ref y_holding, .int 0, .ref y_kept, .int 0])), (y_document, .inl (g.2 1, 240, .inl (fun _ => 0))), (y_variables, .inl (g.2 1, 52, .inl (fun _ => 0))), (y_kept, .inl (g.2 1, 630000, .inl (fun _ => 0)))] H locs) (hl : lv_has ls 4 [(3, .int 0), (2, .ref y), (1, .ref x), (0, .ref bs)]) (e1 : xs 1 = 2) : W pp l ee room_1 s m #[Value.ref bs] bb mm cd H locs 973 728835 (lw_Z bb #[Value.ref bs] s) (F0 m 176 ls []) := by
  have hx := X.1
  have hb := X.2.1
  refine lv_aload_n hx hb dL_law_176 rfl (lv_at hl 2 rfl) ?_
  refine lv_aload_n hx hb dL_law_177 rfl (lv_at hl 3 rfl) ?_
  refine lv_iload_n hx hb dL_law_178 rfl (lv_at hl 0 rfl) ?_
  refine lv_iconst (v := 1) hx hb dL_law_179 (by decide) ?_
  refine lv_iadd hx hb dL_law_180 ?_
  refine r_vi (y := 1) (by decide) ?_
  refine r_sld X hX hbl h (v := xs 1) (vp_lit (by decide +kernel)) rfl dL_law_181 ?_
  refine r_vi (y := 2) e1 ?_
  refine k_i X h [0, 1, 2, 3, 4, 5, 6, 7, 8, 9, 10, 11, 12, 13, 14, 15, 16, 17, 18] [19, 20, 21, 22] (wr := [(y, .inr (7, [.ref y_refused, .ref y_document, .int 0, .int 0, .ref y_variables, .int 0, .ref y_nodes, .ref y_node, .ref y_master, .ref y_isSet, .ref y_setMany, .ref y_setFrom, .ref y_setUsed, .ref y_setText, .ref y_atStop, .ref y_isFresh, .ref y_then, .ref y_choiceMany, .ref y_choiceFrom, .ref y_choiceLong, .ref y_choiceBytes, .int 0, .ref y_text, .int 0, .int 0, .int 0, .int 0, .ref y_open, .int 0, .ref y_shown, .int 0, .int 0, .ref y_nextNode, .ref y_endNode, .ref y_made, .ref y_beganAt, .ref y_ofNode, .ref y_isOwn, .int 0, .ref y_begin, .ref y_size, .ref y_holding, .int 0, .ref y_kept, .int 0])), (y_document, .inl (g.2 1, 240, .inl (fun _ => 0))), (y_variables, .inl (g.2 1, 52, .inl (fun _ => 0))), (y_kept, .inl (g.2 1, 630000, .inl (fun _ => 0)))]) rfl rfl rfl (by decide) 973 728835 (Nat.le_of_ble_eq_true rfl) (Nat.le_of_ble_eq_true rfl) (k_runV X h (As := [.int 2]) (rest := []) (c6_variable_v2 l g H.size x tx lk pa nO dO txb p0 p1 p2 p3 p4 p5 p6 p7 np nv ns nsh npb nv0 nv1 nv2 nv3 nv0b nv1b nv2b nv3b dp dv ds dsh dpb dv0 dv1 dv2 dv3 dv0b dv1b dv2b dv3b ds0 ds1 ds2 dshb) cw_L_23 [0, 1, 2, 3, 4, 5, 6, 7, 8, 9, 10, 11, 12, 13, 14, 15, 16, 17, 18] rfl rfl 0 kl6 rfl rfl rfl (Nat.le_of_ble_eq_true rfl) (Nat.le_of_ble_eq_true rfl) rfl hl.1 rfl (Nat.le_of_ble_eq_true rfl) dL_law_182 (Nat.le_of_ble_eq_true rfl) (Nat.le_of_ble_eq_true rfl)) (fun _ H locs h => ?_)
  have h : ST g (LA s) s [(y, .inr (7, [.ref y_refused, .ref y_document, .int 0, .int 0, .ref y_variables, .int 0, .ref y_nodes, .ref y_node, .ref y_master, .ref y_isSet, .ref y_setMany, .ref y_setFrom, .ref y_setUsed, .ref y_setText, .ref y_atStop, .ref y_isFresh, .ref y_then, .ref y_choiceMany, .ref y_choiceFrom, .ref y_choiceLong, .ref y_choiceBytes, .int 0, .ref y_text, .int 0, .int 0, .int 0, .int 0, .ref y_open, .int 0, .ref y_shown, .int 0, .int 0, .ref y_nextNode, .ref y_endNode, .ref y_made, .ref y_beganAt, .ref y_ofNode, .ref y_isOwn, .int 0, .ref y_begin, .ref y_size, .ref y_holding, .int 0, .ref y_kept, .int 0])), (y_document, .inl (g.2 1, 240, .inl (fun _ => 0))), (y_variables, .inl (g.2 1, 52, .inl (fun _ => 0))), (y_kept, .inl (g.2 1, 630000, .inl (fun _ => 0)))] H locs := h
  refine lv_aload_n hx hb dL_law_185 rfl (lv_at hl 1 rfl) ?_
  refine lv_aload_n hx hb dL_law_186 rfl (lv_at hl 3 rfl) ?_
  refine lv_iload_n hx hb dL_law_187 rfl (lv_at hl 0 rfl) ?_
  refine lv_iconst (v := 1) hx hb dL_law_188 (by decide) ?_
  refine lv_iadd hx hb dL_law_189 ?_
  refine r_vi (y := 1) (by decide) ?_
  refine r_sld X hX hbl h (v := xs 1) (vp_lit (by decide +kernel)) rfl dL_law_190 ?_
  refine r_vi (y := 2) e1 ?_
  refine k_i X h [0, 1, 2, 3] [] (wr := []) rfl rfl rfl (by decide) 973 728835 (Nat.le_of_ble_eq_true rfl) (Nat.le_of_ble_eq_true rfl) (k_runV X h (As := [.int 2]) (rest := [.int 0]) (c7_variable_v2 l g H.size y y_refused y_document y_variables y_nodes y_node y_master y_isSet y_setMany y_setFrom y_setUsed y_setText y_atStop y_isFresh y_then y_choiceMany y_choiceFrom y_choiceLong y_choiceBytes y_text y_open y_shown y_nextNode y_endNode y_made y_beganAt y_ofNode y_isOwn y_begin y_size y_holding y_kept) cw_L_26 [0, 1, 2, 3] rfl rfl 0 kl7 rfl rfl rfl (Nat.le_of_ble_eq_true rfl) (Nat.le_of_ble_eq_true rfl) rfl hl.1 rfl (Nat.le_of_ble_eq_true rfl) dL_law_191 (Nat.le_of_ble_eq_true rfl) (Nat.le_of_ble_eq_true rfl)) (fun _ H locs h => ?_)
  have h : ST g (LA s) s [] H locs := h
  refine lv_icmp_eq (tgt := 660) hx hb dL_law_194 (by decide) (fun c_1 => ?_) (fun c_1 => absurd (by decide) c_1)
  exact law_tail X hX hbl h (lv_sub hl [0, 3] rfl) (Nat.le_of_ble_eq_true rfl) (Nat.le_of_ble_eq_true rfl)

set_option maxHeartbeats 4000000 in
set_option maxRecDepth 100000 in
theorem lw_variable_v3 {nm : String} {g : GE} {pp : Program} {l : Launch} {ee : Env} {s : State} {m : MethodId} {bb : List Frame} {mm : Method} {cd : Code} {bs : Nat} {xs : Nat → Int32} {H : Heap} {locs : List Loc} {ls : Array Slot} (X : CX g pp s m mm cd #[Value.ref bs] cL_law 4 RL nm ret (LA s)) (hX : va_X bs 4 xs s s.heap) (hbl : bs < s.heap.size) {y x tx lk pa nO dO txb p0 p1 p2 p3 p4 p5 p6 p7 np nv ns nsh npb nv0 nv1 nv2 nv3 nv0b nv1b nv2b nv3b dp dv ds dsh dpb dv0 dv1 dv2 dv3 dv0b dv1b dv2b dv3b ds0 ds1 ds2 dshb y_refused y_document y_variables y_nodes y_node y_master y_isSet y_setMany y_setFrom y_setUsed y_setText y_atStop y_isFresh y_then y_choiceMany y_choiceFrom y_choiceLong y_choiceBytes y_text y_open y_shown y_nextNode y_endNode y_made y_beganAt y_ofNode y_isOwn y_begin y_size y_holding y_kept : Nat} (h : ST g (LA s) s [(x, .inr (6, [.ref tx, .ref lk, .ref pa, .int 0, .ref nO, .ref dO, .int 0, .int 0, .int 0])), (tx, .inr (2, [.int 120, .ref txb, .int 0])), (pa, .inl (g.2 6, 8, .inr (.inr (.inr (.inr (va_up (va_up (va_up (va_up (va_up (va_up (va_up (va_up (fun _ => none) 0 (some p0)) 1 (some p1)) 2 (some p2)) 3 (some p3)) 4 (some p4)) 5 (some p5)) 6 (some p6)) 7 (some p7))))))), (nO, .inr (4, [.ref np, .int 0, .ref nv, .ref ns, .int 0, .ref nsh])), (np, .inr (2, [.int 241, .ref npb, .int 0])), (nv, .inl (g.2 4, 4, .inr (.inr (.inr (.inr (va_up (va_up (va_up (va_up (fun _ => none) 0 (some nv0)) 1 (some nv1)) 2 (some nv2)) 3 (some nv3))))))), (nv0, .inr (2, [.int 12, .ref nv0b, .int 0])), (nv1, .inr (2, [.int 12, .ref nv1b, .int 0])), (nv2, .inr (2, [.int 12, .ref nv2b, .int 0])), (nv3, .inr (2, [.int 12, .ref nv3b, .int 0])), (dO, .inr (4, [.ref dp, .int 0, .ref dv, .ref ds, .int 0, .ref dsh])), (dp, .inr (2, [.int 241, .ref dpb, .int 0])), (dv, .inl (g.2 4, 4, .inr (.inr (.inr (.inr (va_up (va_up (va_up (va_up (fun _ => none) 0 (some dv0)) 1 (some dv1)) 2 (some dv2)) 3 (some dv3))))))), (dv0, .inr (2, [.int 12, .ref dv0b, .int 0])), (dv1, .inr (2, [.int 12, .ref dv1b, .int 0])), (dv2, .inr (2, [.int 12, .ref dv2b, .int 0])), (dv3, .inr (2, [.int 12, .ref dv3b, .int 0])), (ds, .inl (g.2 5, 3, .inr (.inr (.inr (.inr (va_up (va_up (va_up (fun _ => none) 0 (some ds0)) 1 (some ds1)) 2 (some ds2))))))), (dsh, .inr (2, [.int 241, .ref dshb, .int 0])), (y, .inr (7, [.ref y_refused, .ref y_document, .int 0, .int 0, .ref y_variables, .int 0, .ref y_nodes, .ref y_node, .ref y_master, .ref y_isSet, .ref y_setMany, .ref y_setFrom, .ref y_setUsed, .ref y_setText, .ref y_atStop, .ref y_isFresh, .ref y_then, .ref y_choiceMany, .ref y_choiceFrom, .ref y_choiceLong, .ref y_choiceBytes, .int 0, .ref y_text, .int 0, .int 0, .int 0, .int 0, .ref y_open, .int 0, .ref y_shown, .int 0, .int 0, .ref y_nextNode, .ref y_endNode, .ref y_made, .ref y_beganAt, .ref y_ofNode, .ref y_isOwn, .int 0, .ref y_begin, .ref y_size, .ref y_holding, .int 0, .ref y_kept, .int 0])), (y_document, .inl (g.2 1, 240, .inl (fun _ => 0))), (y_variables, .inl (g.2 1, 52, .inl (fun _ => 0))), (y_kept, .inl (g.2 1, 630000, .inl (fun _ => 0)))] H locs) (hl : lv_has ls 4 [(3, .int 0), (2, .ref y), (1, .ref x), (0, .ref bs)]) (e1 : xs 1 = 3) : W pp l ee room_1 s m #[Value.ref bs] bb mm cd H locs 973 728835 (lw_Z bb #[Value.ref bs] s) (F0 m 176 ls []) := by
  have hx := X.1
  have hb := X.2.1
  refine lv_aload_n hx hb dL_law_176 rfl (lv_at hl 2 rfl) ?_
  refine lv_aload_n hx hb dL_law_177 rfl (lv_at hl 3 rfl) ?_
  refine lv_iload_n hx hb dL_law_178 rfl (lv_at hl 0 rfl) ?_
  refine lv_iconst (v := 1) hx hb dL_law_179 (by decide) ?_
  refine lv_iadd hx hb dL_law_180 ?_
  refine r_vi (y := 1) (by decide) ?_
  refine r_sld X hX hbl h (v := xs 1) (vp_lit (by decide +kernel)) rfl dL_law_181 ?_
  refine r_vi (y := 3) e1 ?_
  refine k_i X h [0, 1, 2, 3, 4, 5, 6, 7, 8, 9, 10, 11, 12, 13, 14, 15, 16, 17, 18] [19, 20, 21, 22] (wr := [(y, .inr (7, [.ref y_refused, .ref y_document, .int 0, .int 0, .ref y_variables, .int 0, .ref y_nodes, .ref y_node, .ref y_master, .ref y_isSet, .ref y_setMany, .ref y_setFrom, .ref y_setUsed, .ref y_setText, .ref y_atStop, .ref y_isFresh, .ref y_then, .ref y_choiceMany, .ref y_choiceFrom, .ref y_choiceLong, .ref y_choiceBytes, .int 0, .ref y_text, .int 0, .int 0, .int 0, .int 0, .ref y_open, .int 0, .ref y_shown, .int 0, .int 0, .ref y_nextNode, .ref y_endNode, .ref y_made, .ref y_beganAt, .ref y_ofNode, .ref y_isOwn, .int 0, .ref y_begin, .ref y_size, .ref y_holding, .int 0, .ref y_kept, .int 0])), (y_document, .inl (g.2 1, 240, .inl (fun _ => 0))), (y_variables, .inl (g.2 1, 52, .inl (fun _ => 0))), (y_kept, .inl (g.2 1, 630000, .inl (fun _ => 0)))]) rfl rfl rfl (by decide) 973 728835 (Nat.le_of_ble_eq_true rfl) (Nat.le_of_ble_eq_true rfl) (k_runV X h (As := [.int 3]) (rest := []) (c6_variable_v3 l g H.size x tx lk pa nO dO txb p0 p1 p2 p3 p4 p5 p6 p7 np nv ns nsh npb nv0 nv1 nv2 nv3 nv0b nv1b nv2b nv3b dp dv ds dsh dpb dv0 dv1 dv2 dv3 dv0b dv1b dv2b dv3b ds0 ds1 ds2 dshb) cw_L_23 [0, 1, 2, 3, 4, 5, 6, 7, 8, 9, 10, 11, 12, 13, 14, 15, 16, 17, 18] rfl rfl 0 kl6 rfl rfl rfl (Nat.le_of_ble_eq_true rfl) (Nat.le_of_ble_eq_true rfl) rfl hl.1 rfl (Nat.le_of_ble_eq_true rfl) dL_law_182 (Nat.le_of_ble_eq_true rfl) (Nat.le_of_ble_eq_true rfl)) (fun _ H locs h => ?_)
  have h : ST g (LA s) s [(y, .inr (7, [.ref y_refused, .ref y_document, .int 0, .int 0, .ref y_variables, .int 0, .ref y_nodes, .ref y_node, .ref y_master, .ref y_isSet, .ref y_setMany, .ref y_setFrom, .ref y_setUsed, .ref y_setText, .ref y_atStop, .ref y_isFresh, .ref y_then, .ref y_choiceMany, .ref y_choiceFrom, .ref y_choiceLong, .ref y_choiceBytes, .int 0, .ref y_text, .int 0, .int 0, .int 0, .int 0, .ref y_open, .int 0, .ref y_shown, .int 0, .int 0, .ref y_nextNode, .ref y_endNode, .ref y_made, .ref y_beganAt, .ref y_ofNode, .ref y_isOwn, .int 0, .ref y_begin, .ref y_size, .ref y_holding, .int 0, .ref y_kept, .int 0])), (y_document, .inl (g.2 1, 240, .inl (fun _ => 0))), (y_variables, .inl (g.2 1, 52, .inl (fun _ => 0))), (y_kept, .inl (g.2 1, 630000, .inl (fun _ => 0)))] H locs := h
  refine lv_aload_n hx hb dL_law_185 rfl (lv_at hl 1 rfl) ?_
  refine lv_aload_n hx hb dL_law_186 rfl (lv_at hl 3 rfl) ?_
  refine lv_iload_n hx hb dL_law_187 rfl (lv_at hl 0 rfl) ?_
  refine lv_iconst (v := 1) hx hb dL_law_188 (by decide) ?_
  refine lv_iadd hx hb dL_law_189 ?_
  refine r_vi (y := 1) (by decide) ?_
  refine r_sld X hX hbl h (v := xs 1) (vp_lit (by decide +kernel)) rfl dL_law_190 ?_
  refine r_vi (y := 3) e1 ?_
  refine k_i X h [0, 1, 2, 3] [] (wr := []) rfl rfl rfl (by decide) 973 728835 (Nat.le_of_ble_eq_true rfl) (Nat.le_of_ble_eq_true rfl) (k_runV X h (As := [.int 3]) (rest := [.int 0]) (c7_variable_v3 l g H.size y y_refused y_document y_variables y_nodes y_node y_master y_isSet y_setMany y_setFrom y_setUsed y_setText y_atStop y_isFresh y_then y_choiceMany y_choiceFrom y_choiceLong y_choiceBytes y_text y_open y_shown y_nextNode y_endNode y_made y_beganAt y_ofNode y_isOwn y_begin y_size y_holding y_kept) cw_L_26 [0, 1, 2, 3] rfl rfl 0 kl7 rfl rfl rfl (Nat.le_of_ble_eq_true rfl) (Nat.le_of_ble_eq_true rfl) rfl hl.1 rfl (Nat.le_of_ble_eq_true rfl) dL_law_191 (Nat.le_of_ble_eq_true rfl) (Nat.le_of_ble_eq_true rfl)) (fun _ H locs h => ?_)
  have h : ST g (LA s) s [] H locs := h
  refine lv_icmp_eq (tgt := 660) hx hb dL_law_194 (by decide) (fun c_1 => ?_) (fun c_1 => absurd (by decide) c_1)
  exact law_tail X hX hbl h (lv_sub hl [0, 3] rfl) (Nat.le_of_ble_eq_true rfl) (Nat.le_of_ble_eq_true rfl)

set_option maxHeartbeats 4000000 in
set_option maxRecDepth 100000 in
theorem lw_begins {nm : String} {g : GE} {pp : Program} {l : Launch} {ee : Env} {s : State} {m : MethodId} {bb : List Frame} {mm : Method} {cd : Code} {bs : Nat} {xs : Nat → Int32} {H : Heap} {locs : List Loc} {ls : Array Slot} (X : CX g pp s m mm cd #[Value.ref bs] cL_law 4 RL nm ret (LA s)) (hX : va_X bs 4 xs s s.heap) (hbl : bs < s.heap.size) {y x tx lk pa nO dO txb p0 p1 p2 p3 p4 p5 p6 p7 np nv ns nsh npb nv0 nv1 nv2 nv3 nv0b nv1b nv2b nv3b dp dv ds dsh dpb dv0 dv1 dv2 dv3 dv0b dv1b dv2b dv3b ds0 ds1 ds2 dshb tb dss dst dsb dsg dsl y_refused y_document y_variables y_nodes y_node y_master y_isSet y_setMany y_setFrom y_setUsed y_setText y_atStop y_isFresh y_then y_choiceMany y_choiceFrom y_choiceLong y_choiceBytes y_text y_open y_shown y_nextNode y_endNode y_made y_beganAt y_ofNode y_isOwn y_begin y_size y_holding y_kept : Nat} (h : ST g (LA s) s [(x, .inr (6, [.ref tx, .ref lk, .ref pa, .int 0, .ref nO, .ref dO, .int 0, .int 0, .int 0])), (tx, .inr (2, [.int 120, .ref txb, .int 0])), (pa, .inl (g.2 6, 8, .inr (.inr (.inr (.inr (va_up (va_up (va_up (va_up (va_up (va_up (va_up (va_up (fun _ => none) 0 (some p0)) 1 (some p1)) 2 (some p2)) 3 (some p3)) 4 (some p4)) 5 (some p5)) 6 (some p6)) 7 (some p7))))))), (nO, .inr (4, [.ref np, .int 0, .ref nv, .ref ns, .int 0, .ref nsh])), (np, .inr (2, [.int 241, .ref npb, .int 0])), (nv, .inl (g.2 4, 4, .inr (.inr (.inr (.inr (va_up (va_up (va_up (va_up (fun _ => none) 0 (some nv0)) 1 (some nv1)) 2 (some nv2)) 3 (some nv3))))))), (nv0, .inr (2, [.int 12, .ref nv0b, .int 0])), (nv1, .inr (2, [.int 12, .ref nv1b, .int 0])), (nv2, .inr (2, [.int 12, .ref nv2b, .int 0])), (nv3, .inr (2, [.int 12, .ref nv3b, .int 0])), (dO, .inr (4, [.ref dp, .int 0, .ref dv, .ref ds, .int 0, .ref dsh])), (dp, .inr (2, [.int 241, .ref dpb, .int 0])), (dv, .inl (g.2 4, 4, .inr (.inr (.inr (.inr (va_up (va_up (va_up (va_up (fun _ => none) 0 (some dv0)) 1 (some dv1)) 2 (some dv2)) 3 (some dv3))))))), (dv0, .inr (2, [.int 12, .ref dv0b, .int 0])), (dv1, .inr (2, [.int 12, .ref dv1b, .int 0])), (dv2, .inr (2, [.int 12, .ref dv2b, .int 0])), (dv3, .inr (2, [.int 12, .ref dv3b, .int 0])), (ds, .inl (g.2 5, 3, .inr (.inr (.inr (.inr (va_up (va_up (va_up (fun _ => none) 0 (some ds0)) 1 (some ds1)) 2 (some ds2))))))), (dsh, .inr (2, [.int 241, .ref dshb, .int 0])), (ds0, .inr (3, [.ref tb, .int (-1), .int 0, .ref dss, .ref dst, .ref dsb, .ref dsg, .ref dsl])), (dss, .inl (g.2 2, 10, .inl (fun _ => 0))), (dsb, .inl (g.2 5, 10, .inr (.inr (.inr (.inr (fun _ => none)))))), (y, .inr (7, [.ref y_refused, .ref y_document, .int 0, .int 0, .ref y_variables, .int 0, .ref y_nodes, .ref y_node, .ref y_master, .ref y_isSet, .ref y_setMany, .ref y_setFrom, .ref y_setUsed, .ref y_setText, .ref y_atStop, .ref y_isFresh, .ref y_then, .ref y_choiceMany, .ref y_choiceFrom, .ref y_choiceLong, .ref y_choiceBytes, .int 0, .ref y_text, .int 0, .int 0, .int 0, .int 0, .ref y_open, .int 0, .ref y_shown, .int 0, .int 0, .ref y_nextNode, .ref y_endNode, .ref y_made, .ref y_beganAt, .ref y_ofNode, .ref y_isOwn, .int 0, .ref y_begin, .ref y_size, .ref y_holding, .int 0, .ref y_kept, .int 0])), (y_document, .inl (g.2 1, 240, .inl (fun _ => 0))), (y_variables, .inl (g.2 1, 52, .inl (fun _ => 0))), (y_nodes, .inl (g.2 1, 4, .inl (fun _ => 0))), (y_master, .inl (g.2 1, 40, .inl (fun _ => 0))), (y_isSet, .inl (g.2 1, 30, .inl (fun _ => 0))), (y_setMany, .inl (g.2 1, 30, .inl (fun _ => 0))), (y_setFrom, .inl (g.2 1, 30, .inl (fun _ => 0))), (y_setUsed, .inl (g.2 1, 3, .inl (fun _ => 0))), (y_atStop, .inl (g.2 1, 3, .inl (fun _ => 0))), (y_isFresh, .inl (g.2 1, 3, .inl (fun _ => 0))), (y_then, .inl (g.2 1, 156, .inl (fun _ => 0))), (y_choiceMany, .inl (g.2 1, 4, .inl (fun _ => 0))), (y_nextNode, .inl (g.2 1, 16, .inl (fun _ => 0))), (y_endNode, .inl (g.2 1, 16, .inl (fun _ => 0))), (y_made, .inl (g.2 1, 16, .inl (fun _ => 0))), (y_beganAt, .inl (g.2 1, 16, .inl (fun _ => 0))), (y_ofNode, .inl (g.2 1, 16, .inl (fun _ => 0))), (y_isOwn, .inl (g.2 1, 16, .inl (fun _ => 0))), (y_kept, .inl (g.2 1, 630000, .inl (fun _ => 0)))] H locs) (hl : lv_has ls 4 [(3, .int 0), (2, .ref y), (1, .ref x), (0, .ref bs)]) : W pp l ee room_1 s m #[Value.ref bs] bb mm cd H locs 973 728835 (lw_Z bb #[Value.ref bs] s) (F0 m 199 ls []) := by
  have hx := X.1
  have hb := X.2.1
  refine lv_aload_n hx hb dL_law_199 rfl (lv_at hl 2 rfl) ?_
  refine k_i X h [0, 1, 2, 3, 4, 5, 6, 7, 8, 9, 10, 11, 12, 13, 14, 15, 16, 17, 18, 19, 20, 21] [22, 23, 24, 25, 26, 27, 28, 29, 30, 31, 32, 33, 34, 35, 36, 37, 38, 39, 40, 41] (wr := [(y, .inr (7, [.ref y_refused, .ref y_document, .int 0, .int 0, .ref y_variables, .int 0, .ref y_nodes, .ref y_node, .ref y_master, .ref y_isSet, .ref y_setMany, .ref y_setFrom, .ref y_setUsed, .ref y_setText, .ref y_atStop, .ref y_isFresh, .ref y_then, .ref y_choiceMany, .ref y_choiceFrom, .ref y_choiceLong, .ref y_choiceBytes, .int 0, .ref y_text, .int 0, .int 0, .int 0, .int 0, .ref y_open, .int 0, .ref y_shown, .int 0, .int 0, .ref y_nextNode, .ref y_endNode, .ref y_made, .ref y_beganAt, .ref y_ofNode, .ref y_isOwn, .int 0, .ref y_begin, .ref y_size, .ref y_holding, .int 0, .ref y_kept, .int 0])), (y_document, .inl (g.2 1, 240, .inl (fun _ => 0))), (y_variables, .inl (g.2 1, 52, .inl (fun _ => 0))), (y_nodes, .inl (g.2 1, 4, .inl (fun _ => 0))), (y_master, .inl (g.2 1, 40, .inl (fun _ => 0))), (y_isSet, .inl (g.2 1, 30, .inl (fun _ => 0))), (y_setMany, .inl (g.2 1, 30, .inl (fun _ => 0))), (y_setFrom, .inl (g.2 1, 30, .inl (fun _ => 0))), (y_setUsed, .inl (g.2 1, 3, .inl (fun _ => 0))), (y_atStop, .inl (g.2 1, 3, .inl (fun _ => 0))), (y_isFresh, .inl (g.2 1, 3, .inl (fun _ => 0))), (y_then, .inl (g.2 1, 156, .inl (fun _ => 0))), (y_choiceMany, .inl (g.2 1, 4, .inl (fun _ => 0))), (y_nextNode, .inl (g.2 1, 16, .inl (fun _ => 0))), (y_endNode, .inl (g.2 1, 16, .inl (fun _ => 0))), (y_made, .inl (g.2 1, 16, .inl (fun _ => 0))), (y_beganAt, .inl (g.2 1, 16, .inl (fun _ => 0))), (y_ofNode, .inl (g.2 1, 16, .inl (fun _ => 0))), (y_isOwn, .inl (g.2 1, 16, .inl (fun _ => 0))), (y_kept, .inl (g.2 1, 630000, .inl (fun _ => 0)))]) rfl rfl rfl (by decide) 979 728878 (Nat.le_of_ble_eq_true rfl) (Nat.le_of_ble_eq_true rfl) (k_runV X h (As := []) (rest := []) (c6_begins l g H.size x tx lk pa nO dO txb p0 p1 p2 p3 p4 p5 p6 p7 np nv ns nsh npb nv0 nv1 nv2 nv3 nv0b nv1b nv2b nv3b dp dv ds dsh dpb dv0 dv1 dv2 dv3 dv0b dv1b dv2b dv3b ds0 ds1 ds2 dshb tb dss dst dsb dsg dsl) cw_L_27 [0, 1, 2, 3, 4, 5, 6, 7, 8, 9, 10, 11, 12, 13, 14, 15, 16, 17, 18, 19, 20, 21] rfl rfl 0 kl6 rfl rfl rfl (Nat.le_of_ble_eq_true rfl) (Nat.le_of_ble_eq_true rfl) rfl hl.1 rfl (Nat.le_of_ble_eq_true rfl) dL_law_200 (Nat.le_of_ble_eq_true rfl) (Nat.le_of_ble_eq_true rfl)) (fun _ H locs h => ?_)
  have h : ST g (LA s) s [(y, .inr (7, [.ref y_refused, .ref y_document, .int 0, .int 0, .ref y_variables, .int 0, .ref y_nodes, .ref y_node, .ref y_master, .ref y_isSet, .ref y_setMany, .ref y_setFrom, .ref y_setUsed, .ref y_setText, .ref y_atStop, .ref y_isFresh, .ref y_then, .ref y_choiceMany, .ref y_choiceFrom, .ref y_choiceLong, .ref y_choiceBytes, .int 0, .ref y_text, .int 0, .int 0, .int 0, .int 0, .ref y_open, .int 0, .ref y_shown, .int 0, .int 0, .ref y_nextNode, .ref y_endNode, .ref y_made, .ref y_beganAt, .ref y_ofNode, .ref y_isOwn, .int 0, .ref y_begin, .ref y_size, .ref y_holding, .int 0, .ref y_kept, .int 0])), (y_document, .inl (g.2 1, 240, .inl (fun _ => 0))), (y_variables, .inl (g.2 1, 52, .inl (fun _ => 0))), (y_nodes, .inl (g.2 1, 4, .inl (fun _ => 0))), (y_master, .inl (g.2 1, 40, .inl (fun _ => 0))), (y_isSet, .inl (g.2 1, 30, .inl (fun _ => 0))), (y_setMany, .inl (g.2 1, 30, .inl (fun _ => 0))), (y_setFrom, .inl (g.2 1, 30, .inl (fun _ => 0))), (y_setUsed, .inl (g.2 1, 3, .inl (fun _ => 0))), (y_atStop, .inl (g.2 1, 3, .inl (fun _ => 0))), (y_isFresh, .inl (g.2 1, 3, .inl (fun _ => 0))), (y_then, .inl (g.2 1, 156, .inl (fun _ => 0))), (y_choiceMany, .inl (g.2 1, 4, .inl (fun _ => 0))), (y_nextNode, .inl (g.2 1, 16, .inl (fun _ => 0))), (y_endNode, .inl (g.2 1, 16, .inl (fun _ => 0))), (y_made, .inl (g.2 1, 16, .inl (fun _ => 0))), (y_beganAt, .inl (g.2 1, 16, .inl (fun _ => 0))), (y_ofNode, .inl (g.2 1, 16, .inl (fun _ => 0))), (y_isOwn, .inl (g.2 1, 16, .inl (fun _ => 0))), (y_kept, .inl (g.2 1, 630000, .inl (fun _ => 0)))] H locs := h
  refine lv_aload_n hx hb dL_law_203 rfl (lv_at hl 1 rfl) ?_
  refine k_i X h [0, 1, 2, 3, 4, 5, 6, 7, 8, 9, 10, 11, 12, 13, 14, 15, 16, 17, 18, 19] [] (wr := []) rfl rfl rfl (by decide) 979 728878 (Nat.le_of_ble_eq_true rfl) (Nat.le_of_ble_eq_true rfl) (k_runV X h (As := []) (rest := [.int (-5)]) (c7_begins l g H.size y y_refused y_document y_variables y_nodes y_node y_master y_isSet y_setMany y_setFrom y_setUsed y_setText y_atStop y_isFresh y_then y_choiceMany y_choiceFrom y_choiceLong y_choiceBytes y_text y_open y_shown y_nextNode y_endNode y_made y_beganAt y_ofNode y_isOwn y_begin y_size y_holding y_kept) cw_L_30 [0, 1, 2, 3, 4, 5, 6, 7, 8, 9, 10, 11, 12, 13, 14, 15, 16, 17, 18, 19] rfl rfl 0 kl7 rfl rfl rfl (Nat.le_of_ble_eq_true rfl) (Nat.le_of_ble_eq_true rfl) rfl hl.1 rfl (Nat.le_of_ble_eq_true rfl) dL_law_204 (Nat.le_of_ble_eq_true rfl) (Nat.le_of_ble_eq_true rfl)) (fun _ H locs h => ?_)
  have h : ST g (LA s) s [] H locs := h
  refine lv_icmp_eq (tgt := 660) hx hb dL_law_207 (by decide) (fun c_1 => ?_) (fun c_1 => absurd (by decide) c_1)
  exact law_tail X hX hbl h (lv_sub hl [0, 3] rfl) (Nat.le_of_ble_eq_true rfl) (Nat.le_of_ble_eq_true rfl)

set_option maxHeartbeats 4000000 in
set_option maxRecDepth 100000 in
theorem lw_key_lo {nm : String} {g : GE} {pp : Program} {l : Launch} {ee : Env} {s : State} {m : MethodId} {bb : List Frame} {mm : Method} {cd : Code} {bs : Nat} {xs : Nat → Int32} {H : Heap} {locs : List Loc} {ls : Array Slot} (X : CX g pp s m mm cd #[Value.ref bs] cL_law 4 RL nm ret (LA s)) (hX : va_X bs 4 xs s s.heap) (hbl : bs < s.heap.size) {y x tx lk pa nO dO y_refused y_document y_variables y_nodes y_node y_master y_isSet y_setMany y_setFrom y_setUsed y_setText y_atStop y_isFresh y_then y_choiceMany y_choiceFrom y_choiceLong y_choiceBytes y_text y_open y_shown y_nextNode y_endNode y_made y_beganAt y_ofNode y_isOwn y_begin y_size y_holding y_kept : Nat} (h : ST g (LA s) s [(x, .inr (6, [.ref tx, .ref lk, .ref pa, .int 0, .ref nO, .ref dO, .int 0, .int 0, .int 0])), (y, .inr (7, [.ref y_refused, .ref y_document, .int 0, .int 0, .ref y_variables, .int 0, .ref y_nodes, .ref y_node, .ref y_master, .ref y_isSet, .ref y_setMany, .ref y_setFrom, .ref y_setUsed, .ref y_setText, .ref y_atStop, .ref y_isFresh, .ref y_then, .ref y_choiceMany, .ref y_choiceFrom, .ref y_choiceLong, .ref y_choiceBytes, .int 0, .ref y_text, .int 0, .int 0, .int 0, .int 0, .ref y_open, .int 0, .ref y_shown, .int 0, .int 0, .ref y_nextNode, .ref y_endNode, .ref y_made, .ref y_beganAt, .ref y_ofNode, .ref y_isOwn, .int 0, .ref y_begin, .ref y_size, .ref y_holding, .int 0, .ref y_kept, .int 0])), (y_refused, .inl (g.2 1, 3, .inl (fun _ => 0)))] H locs) (hl : lv_has ls 4 [(3, .int 0), (2, .ref y), (1, .ref x), (0, .ref bs)]) {c : Int32} (e1 : xs 1 = c) (h1 : c < 32) : W pp l ee room_1 s m #[Value.ref bs] bb mm cd H locs 973 728835 (lw_Z bb #[Value.ref bs] s) (F0 m 212 ls []) := by
  have hx := X.1
  have hb := X.2.1
  refine lv_aload_n hx hb dL_law_212 rfl (lv_at hl 2 rfl) ?_
  refine lv_aload_n hx hb dL_law_213 rfl (lv_at hl 3 rfl) ?_
  refine lv_iload_n hx hb dL_law_214 rfl (lv_at hl 0 rfl) ?_
  refine lv_iconst (v := 1) hx hb dL_law_215 (by decide) ?_
  refine lv_iadd hx hb dL_law_216 ?_
  refine r_vi (y := 1) (by decide) ?_
  refine r_sld X hX hbl h (v := xs 1) (vp_lit (by decide +kernel)) rfl dL_law_217 ?_
  refine r_vi (y := c) e1 ?_
  refine k_i X h [0] [1, 2] (wr := [(y, .inr (7, [.ref y_refused, .ref y_document, .int 0, .int 0, .ref y_variables, .int 0, .ref y_nodes, .ref y_node, .ref y_master, .ref y_isSet, .ref y_setMany, .ref y_setFrom, .ref y_setUsed, .ref y_setText, .ref y_atStop, .ref y_isFresh, .ref y_then, .ref y_choiceMany, .ref y_choiceFrom, .ref y_choiceLong, .ref y_choiceBytes, .int 0, .ref y_text, .int 0, .int 0, .int 0, .int 0, .ref y_open, .int 0, .ref y_shown, .int 0, .int 0, .ref y_nextNode, .ref y_endNode, .ref y_made, .ref y_beganAt, .ref y_ofNode, .ref y_isOwn, .int 0, .ref y_begin, .ref y_size, .ref y_holding, .int 0, .ref y_kept, .int 0])), (y_refused, .inl (g.2 1, 3, .inl (fun _ => 0)))]) rfl rfl rfl (by decide) 973 728835 (Nat.le_of_ble_eq_true rfl) (Nat.le_of_ble_eq_true rfl) (k_runV X h (As := [.int c]) (rest := []) (c6_key_lo l g H.size x tx lk pa nO dO c h1) cw_L_31 [0] rfl rfl 0 kl6 rfl rfl rfl (Nat.le_of_ble_eq_true rfl) (Nat.le_of_ble_eq_true rfl) rfl hl.1 rfl (Nat.le_of_ble_eq_true rfl) dL_law_218 (Nat.le_of_ble_eq_true rfl) (Nat.le_of_ble_eq_true rfl)) (fun _ H locs h => ?_)
  have h : ST g (LA s) s [(y, .inr (7, [.ref y_refused, .ref y_document, .int 0, .int 0, .ref y_variables, .int 0, .ref y_nodes, .ref y_node, .ref y_master, .ref y_isSet, .ref y_setMany, .ref y_setFrom, .ref y_setUsed, .ref y_setText, .ref y_atStop, .ref y_isFresh, .ref y_then, .ref y_choiceMany, .ref y_choiceFrom, .ref y_choiceLong, .ref y_choiceBytes, .int 0, .ref y_text, .int 0, .int 0, .int 0, .int 0, .ref y_open, .int 0, .ref y_shown, .int 0, .int 0, .ref y_nextNode, .ref y_endNode, .ref y_made, .ref y_beganAt, .ref y_ofNode, .ref y_isOwn, .int 0, .ref y_begin, .ref y_size, .ref y_holding, .int 0, .ref y_kept, .int 0])), (y_refused, .inl (g.2 1, 3, .inl (fun _ => 0)))] H locs := h
  refine lv_aload_n hx hb dL_law_221 rfl (lv_at hl 1 rfl) ?_
  refine lv_aload_n hx hb dL_law_222 rfl (lv_at hl 3 rfl) ?_
  refine lv_iload_n hx hb dL_law_223 rfl (lv_at hl 0 rfl) ?_
  refine lv_iconst (v := 1) hx hb dL_law_224 (by decide) ?_
  refine lv_iadd hx hb dL_law_225 ?_
  refine r_vi (y := 1) (by decide) ?_
  refine r_sld X hX hbl h (v := xs 1) (vp_lit (by decide +kernel)) rfl dL_law_226 ?_
  refine r_vi (y := c) e1 ?_
  refine k_i X h [0, 1] [] (wr := []) rfl rfl rfl (by decide) 973 728835 (Nat.le_of_ble_eq_true rfl) (Nat.le_of_ble_eq_true rfl) (k_runV X h (As := [.int c]) (rest := [.int (-2)]) (c7_key_lo l g H.size y y_refused y_document y_variables y_nodes y_node y_master y_isSet y_setMany y_setFrom y_setUsed y_setText y_atStop y_isFresh y_then y_choiceMany y_choiceFrom y_choiceLong y_choiceBytes y_text y_open y_shown y_nextNode y_endNode y_made y_beganAt y_ofNode y_isOwn y_begin y_size y_holding y_kept c h1) cw_L_34 [0, 1] rfl rfl 0 kl7 rfl rfl rfl (Nat.le_of_ble_eq_true rfl) (Nat.le_of_ble_eq_true rfl) rfl hl.1 rfl (Nat.le_of_ble_eq_true rfl) dL_law_227 (Nat.le_of_ble_eq_true rfl) (Nat.le_of_ble_eq_true rfl)) (fun _ H locs h => ?_)
  have h : ST g (LA s) s [] H locs := h
  refine lv_icmp_eq (tgt := 660) hx hb dL_law_230 (by decide) (fun c_1 => ?_) (fun c_1 => absurd (by decide) c_1)
  exact law_tail X hX hbl h (lv_sub hl [0, 3] rfl) (Nat.le_of_ble_eq_true rfl) (Nat.le_of_ble_eq_true rfl)

set_option maxHeartbeats 4000000 in
set_option maxRecDepth 100000 in
theorem lw_key_hi {nm : String} {g : GE} {pp : Program} {l : Launch} {ee : Env} {s : State} {m : MethodId} {bb : List Frame} {mm : Method} {cd : Code} {bs : Nat} {xs : Nat → Int32} {H : Heap} {locs : List Loc} {ls : Array Slot} (X : CX g pp s m mm cd #[Value.ref bs] cL_law 4 RL nm ret (LA s)) (hX : va_X bs 4 xs s s.heap) (hbl : bs < s.heap.size) {y x tx lk pa nO dO y_refused y_document y_variables y_nodes y_node y_master y_isSet y_setMany y_setFrom y_setUsed y_setText y_atStop y_isFresh y_then y_choiceMany y_choiceFrom y_choiceLong y_choiceBytes y_text y_open y_shown y_nextNode y_endNode y_made y_beganAt y_ofNode y_isOwn y_begin y_size y_holding y_kept : Nat} (h : ST g (LA s) s [(x, .inr (6, [.ref tx, .ref lk, .ref pa, .int 0, .ref nO, .ref dO, .int 0, .int 0, .int 0])), (y, .inr (7, [.ref y_refused, .ref y_document, .int 0, .int 0, .ref y_variables, .int 0, .ref y_nodes, .ref y_node, .ref y_master, .ref y_isSet, .ref y_setMany, .ref y_setFrom, .ref y_setUsed, .ref y_setText, .ref y_atStop, .ref y_isFresh, .ref y_then, .ref y_choiceMany, .ref y_choiceFrom, .ref y_choiceLong, .ref y_choiceBytes, .int 0, .ref y_text, .int 0, .int 0, .int 0, .int 0, .ref y_open, .int 0, .ref y_shown, .int 0, .int 0, .ref y_nextNode, .ref y_endNode, .ref y_made, .ref y_beganAt, .ref y_ofNode, .ref y_isOwn, .int 0, .ref y_begin, .ref y_size, .ref y_holding, .int 0, .ref y_kept, .int 0])), (y_refused, .inl (g.2 1, 3, .inl (fun _ => 0)))] H locs) (hl : lv_has ls 4 [(3, .int 0), (2, .ref y), (1, .ref x), (0, .ref bs)]) {c : Int32} (e1 : xs 1 = c) (h1 : ¬ c < 32) (h2 : 126 < c) : W pp l ee room_1 s m #[Value.ref bs] bb mm cd H locs 973 728835 (lw_Z bb #[Value.ref bs] s) (F0 m 212 ls []) := by
  have hx := X.1
  have hb := X.2.1
  refine lv_aload_n hx hb dL_law_212 rfl (lv_at hl 2 rfl) ?_
  refine lv_aload_n hx hb dL_law_213 rfl (lv_at hl 3 rfl) ?_
  refine lv_iload_n hx hb dL_law_214 rfl (lv_at hl 0 rfl) ?_
  refine lv_iconst (v := 1) hx hb dL_law_215 (by decide) ?_
  refine lv_iadd hx hb dL_law_216 ?_
  refine r_vi (y := 1) (by decide) ?_
  refine r_sld X hX hbl h (v := xs 1) (vp_lit (by decide +kernel)) rfl dL_law_217 ?_
  refine r_vi (y := c) e1 ?_
  refine k_i X h [0] [1, 2] (wr := [(y, .inr (7, [.ref y_refused, .ref y_document, .int 0, .int 0, .ref y_variables, .int 0, .ref y_nodes, .ref y_node, .ref y_master, .ref y_isSet, .ref y_setMany, .ref y_setFrom, .ref y_setUsed, .ref y_setText, .ref y_atStop, .ref y_isFresh, .ref y_then, .ref y_choiceMany, .ref y_choiceFrom, .ref y_choiceLong, .ref y_choiceBytes, .int 0, .ref y_text, .int 0, .int 0, .int 0, .int 0, .ref y_open, .int 0, .ref y_shown, .int 0, .int 0, .ref y_nextNode, .ref y_endNode, .ref y_made, .ref y_beganAt, .ref y_ofNode, .ref y_isOwn, .int 0, .ref y_begin, .ref y_size, .ref y_holding, .int 0, .ref y_kept, .int 0])), (y_refused, .inl (g.2 1, 3, .inl (fun _ => 0)))]) rfl rfl rfl (by decide) 973 728835 (Nat.le_of_ble_eq_true rfl) (Nat.le_of_ble_eq_true rfl) (k_runV X h (As := [.int c]) (rest := []) (c6_key_hi l g H.size x tx lk pa nO dO c h1 h2) cw_L_31 [0] rfl rfl 0 kl6 rfl rfl rfl (Nat.le_of_ble_eq_true rfl) (Nat.le_of_ble_eq_true rfl) rfl hl.1 rfl (Nat.le_of_ble_eq_true rfl) dL_law_218 (Nat.le_of_ble_eq_true rfl) (Nat.le_of_ble_eq_true rfl)) (fun _ H locs h => ?_)
  have h : ST g (LA s) s [(y, .inr (7, [.ref y_refused, .ref y_document, .int 0, .int 0, .ref y_variables, .int 0, .ref y_nodes, .ref y_node, .ref y_master, .ref y_isSet, .ref y_setMany, .ref y_setFrom, .ref y_setUsed, .ref y_setText, .ref y_atStop, .ref y_isFresh, .ref y_then, .ref y_choiceMany, .ref y_choiceFrom, .ref y_choiceLong, .ref y_choiceBytes, .int 0, .ref y_text, .int 0, .int 0, .int 0, .int 0, .ref y_open, .int 0, .ref y_shown, .int 0, .int 0, .ref y_nextNode, .ref y_endNode, .ref y_made, .ref y_beganAt, .ref y_ofNode, .ref y_isOwn, .int 0, .ref y_begin, .ref y_size, .ref y_holding, .int 0, .ref y_kept, .int 0])), (y_refused, .inl (g.2 1, 3, .inl (fun _ => 0)))] H locs := h
  refine lv_aload_n hx hb dL_law_221 rfl (lv_at hl 1 rfl) ?_
  refine lv_aload_n hx hb dL_law_222 rfl (lv_at hl 3 rfl) ?_
  refine lv_iload_n hx hb dL_law_223 rfl (lv_at hl 0 rfl) ?_
  refine lv_iconst (v := 1) hx hb dL_law_224 (by decide) ?_
  refine lv_iadd hx hb dL_law_225 ?_
  refine r_vi (y := 1) (by decide) ?_
  refine r_sld X hX hbl h (v := xs 1) (vp_lit (by decide +kernel)) rfl dL_law_226 ?_
  refine r_vi (y := c) e1 ?_
  refine k_i X h [0, 1] [] (wr := []) rfl rfl rfl (by decide) 973 728835 (Nat.le_of_ble_eq_true rfl) (Nat.le_of_ble_eq_true rfl) (k_runV X h (As := [.int c]) (rest := [.int (-2)]) (c7_key_hi l g H.size y y_refused y_document y_variables y_nodes y_node y_master y_isSet y_setMany y_setFrom y_setUsed y_setText y_atStop y_isFresh y_then y_choiceMany y_choiceFrom y_choiceLong y_choiceBytes y_text y_open y_shown y_nextNode y_endNode y_made y_beganAt y_ofNode y_isOwn y_begin y_size y_holding y_kept c h1 h2) cw_L_34 [0, 1] rfl rfl 0 kl7 rfl rfl rfl (Nat.le_of_ble_eq_true rfl) (Nat.le_of_ble_eq_true rfl) rfl hl.1 rfl (Nat.le_of_ble_eq_true rfl) dL_law_227 (Nat.le_of_ble_eq_true rfl) (Nat.le_of_ble_eq_true rfl)) (fun _ H locs h => ?_)
  have h : ST g (LA s) s [] H locs := h
  refine lv_icmp_eq (tgt := 660) hx hb dL_law_230 (by decide) (fun c_1 => ?_) (fun c_1 => absurd (by decide) c_1)
  exact law_tail X hX hbl h (lv_sub hl [0, 3] rfl) (Nat.le_of_ble_eq_true rfl) (Nat.le_of_ble_eq_true rfl)

set_option maxHeartbeats 4000000 in
set_option maxRecDepth 100000 in
theorem lw_key_ok {nm : String} {g : GE} {pp : Program} {l : Launch} {ee : Env} {s : State} {m : MethodId} {bb : List Frame} {mm : Method} {cd : Code} {bs : Nat} {xs : Nat → Int32} {H : Heap} {locs : List Loc} {ls : Array Slot} (X : CX g pp s m mm cd #[Value.ref bs] cL_law 4 RL nm ret (LA s)) (hX : va_X bs 4 xs s s.heap) (hbl : bs < s.heap.size) {y x tx lk pa nO dO p0 p1 p2 p3 p4 p5 p6 p7 np nv ns nsh npb nv0 nv1 nv2 nv3 nv0b nv1b nv2b nv3b dp dv ds dsh dpb dv0 dv1 dv2 dv3 dv0b dv1b dv2b dv3b ds0 ds1 ds2 dshb y_refused y_document y_variables y_nodes y_node y_master y_isSet y_setMany y_setFrom y_setUsed y_setText y_atStop y_isFresh y_then y_choiceMany y_choiceFrom y_choiceLong y_choiceBytes y_text y_open y_shown y_nextNode y_endNode y_made y_beganAt y_ofNode y_isOwn y_begin y_size y_holding y_kept : Nat} (h : ST g (LA s) s [(x, .inr (6, [.ref tx, .ref lk, .ref pa, .int 0, .ref nO, .ref dO, .int 0, .int 0, .int 0])), (pa, .inl (g.2 6, 8, .inr (.inr (.inr (.inr (va_up (va_up (va_up (va_up (va_up (va_up (va_up (va_up (fun _ => none) 0 (some p0)) 1 (some p1)) 2 (some p2)) 3 (some p3)) 4 (some p4)) 5 (some p5)) 6 (some p6)) 7 (some p7))))))), (nO, .inr (4, [.ref np, .int 0, .ref nv, .ref ns, .int 0, .ref nsh])), (np, .inr (2, [.int 241, .ref npb, .int 0])), (nv, .inl (g.2 4, 4, .inr (.inr (.inr (.inr (va_up (va_up (va_up (va_up (fun _ => none) 0 (some nv0)) 1 (some nv1)) 2 (some nv2)) 3 (some nv3))))))), (nv0, .inr (2, [.int 12, .ref nv0b, .int 0])), (nv1, .inr (2, [.int 12, .ref nv1b, .int 0])), (nv2, .inr (2, [.int 12, .ref nv2b, .int 0])), (nv3, .inr (2, [.int 12, .ref nv3b, .int 0])), (dO, .inr (4, [.ref dp, .int 0, .ref dv, .ref ds, .int 0, .ref dsh])), (dp, .inr (2, [.int 241, .ref dpb, .int 0])), (dpb, .inl (g.2 0, 0, .inl (fun _ => 0))), (dv, .inl (g.2 4, 4, .inr (.inr (.inr (.inr (va_up (va_up (va_up (va_up (fun _ => none) 0 (some dv0)) 1 (some dv1)) 2 (some dv2)) 3 (some dv3))))))), (dv0, .inr (2, [.int 12, .ref dv0b, .int 0])), (dv1, .inr (2, [.int 12, .ref dv1b, .int 0])), (dv2, .inr (2, [.int 12, .ref dv2b, .int 0])), (dv3, .inr (2, [.int 12, .ref dv3b, .int 0])), (ds, .inl (g.2 5, 3, .inr (.inr (.inr (.inr (va_up (va_up (va_up (fun _ => none) 0 (some ds0)) 1 (some ds1)) 2 (some ds2))))))), (dsh, .inr (2, [.int 241, .ref dshb, .int 0])), (dshb, .inl (g.2 0, 0, .inl (fun _ => 0))), (y, .inr (7, [.ref y_refused, .ref y_document, .int 0, .int 0, .ref y_variables, .int 0, .ref y_nodes, .ref y_node, .ref y_master, .ref y_isSet, .ref y_setMany, .ref y_setFrom, .ref y_setUsed, .ref y_setText, .ref y_atStop, .ref y_isFresh, .ref y_then, .ref y_choiceMany, .ref y_choiceFrom, .ref y_choiceLong, .ref y_choiceBytes, .int 0, .ref y_text, .int 0, .int 0, .int 0, .int 0, .ref y_open, .int 0, .ref y_shown, .int 0, .int 0, .ref y_nextNode, .ref y_endNode, .ref y_made, .ref y_beganAt, .ref y_ofNode, .ref y_isOwn, .int 0, .ref y_begin, .ref y_size, .ref y_holding, .int 0, .ref y_kept, .int 0])), (y_document, .inl (g.2 1, 240, .inl (fun _ => 0))), (y_variables, .inl (g.2 1, 52, .inl (fun _ => 0))), (y_kept, .inl (g.2 1, 630000, .inl (fun _ => 0)))] H locs) (hl : lv_has ls 4 [(3, .int 0), (2, .ref y), (1, .ref x), (0, .ref bs)]) {c : Int32} (e1 : xs 1 = c) (h1 : ¬ c < 32) (h2 : ¬ 126 < c) : W pp l ee room_1 s m #[Value.ref bs] bb mm cd H locs 973 728835 (lw_Z bb #[Value.ref bs] s) (F0 m 212 ls []) := by
  have hx := X.1
  have hb := X.2.1
  refine lv_aload_n hx hb dL_law_212 rfl (lv_at hl 2 rfl) ?_
  refine lv_aload_n hx hb dL_law_213 rfl (lv_at hl 3 rfl) ?_
  refine lv_iload_n hx hb dL_law_214 rfl (lv_at hl 0 rfl) ?_
  refine lv_iconst (v := 1) hx hb dL_law_215 (by decide) ?_
  refine lv_iadd hx hb dL_law_216 ?_
  refine r_vi (y := 1) (by decide) ?_
  refine r_sld X hX hbl h (v := xs 1) (vp_lit (by decide +kernel)) rfl dL_law_217 ?_
  refine r_vi (y := c) e1 ?_
  refine k_i X h [0, 1, 2, 3, 4, 5, 6, 7, 8, 9, 10, 11, 12, 13, 14, 15, 16, 17, 18, 19] [20, 21, 22, 23] (wr := [(y, .inr (7, [.ref y_refused, .ref y_document, .int 0, .int 0, .ref y_variables, .int 0, .ref y_nodes, .ref y_node, .ref y_master, .ref y_isSet, .ref y_setMany, .ref y_setFrom, .ref y_setUsed, .ref y_setText, .ref y_atStop, .ref y_isFresh, .ref y_then, .ref y_choiceMany, .ref y_choiceFrom, .ref y_choiceLong, .ref y_choiceBytes, .int 0, .ref y_text, .int 0, .int 0, .int 0, .int 0, .ref y_open, .int 0, .ref y_shown, .int 0, .int 0, .ref y_nextNode, .ref y_endNode, .ref y_made, .ref y_beganAt, .ref y_ofNode, .ref y_isOwn, .int 0, .ref y_begin, .ref y_size, .ref y_holding, .int 0, .ref y_kept, .int 0])), (y_document, .inl (g.2 1, 240, .inl (fun _ => 0))), (y_variables, .inl (g.2 1, 52, .inl (fun _ => 0))), (y_kept, .inl (g.2 1, 630000, .inl (fun _ => 0)))]) rfl rfl rfl (by decide) 975 728867 (Nat.le_of_ble_eq_true rfl) (Nat.le_of_ble_eq_true rfl) (k_runV X h (As := [.int c]) (rest := []) (c6_key_ok l g H.size x tx lk pa nO dO p0 p1 p2 p3 p4 p5 p6 p7 np nv ns nsh npb nv0 nv1 nv2 nv3 nv0b nv1b nv2b nv3b dp dv ds dsh dpb dv0 dv1 dv2 dv3 dv0b dv1b dv2b dv3b ds0 ds1 ds2 dshb c h1 h2) cw_L_31 [0, 1, 2, 3, 4, 5, 6, 7, 8, 9, 10, 11, 12, 13, 14, 15, 16, 17, 18, 19] rfl rfl 0 kl6 rfl rfl rfl (Nat.le_of_ble_eq_true rfl) (Nat.le_of_ble_eq_true rfl) rfl hl.1 rfl (Nat.le_of_ble_eq_true rfl) dL_law_218 (Nat.le_of_ble_eq_true rfl) (Nat.le_of_ble_eq_true rfl)) (fun _ H locs h => ?_)
  have h : ST g (LA s) s [(y, .inr (7, [.ref y_refused, .ref y_document, .int 0, .int 0, .ref y_variables, .int 0, .ref y_nodes, .ref y_node, .ref y_master, .ref y_isSet, .ref y_setMany, .ref y_setFrom, .ref y_setUsed, .ref y_setText, .ref y_atStop, .ref y_isFresh, .ref y_then, .ref y_choiceMany, .ref y_choiceFrom, .ref y_choiceLong, .ref y_choiceBytes, .int 0, .ref y_text, .int 0, .int 0, .int 0, .int 0, .ref y_open, .int 0, .ref y_shown, .int 0, .int 0, .ref y_nextNode, .ref y_endNode, .ref y_made, .ref y_beganAt, .ref y_ofNode, .ref y_isOwn, .int 0, .ref y_begin, .ref y_size, .ref y_holding, .int 0, .ref y_kept, .int 0])), (y_document, .inl (g.2 1, 240, .inl (fun _ => 0))), (y_variables, .inl (g.2 1, 52, .inl (fun _ => 0))), (y_kept, .inl (g.2 1, 630000, .inl (fun _ => 0)))] H locs := h
  refine lv_aload_n hx hb dL_law_221 rfl (lv_at hl 1 rfl) ?_
  refine lv_aload_n hx hb dL_law_222 rfl (lv_at hl 3 rfl) ?_
  refine lv_iload_n hx hb dL_law_223 rfl (lv_at hl 0 rfl) ?_
  refine lv_iconst (v := 1) hx hb dL_law_224 (by decide) ?_
  refine lv_iadd hx hb dL_law_225 ?_
  refine r_vi (y := 1) (by decide) ?_
  refine r_sld X hX hbl h (v := xs 1) (vp_lit (by decide +kernel)) rfl dL_law_226 ?_
  refine r_vi (y := c) e1 ?_
  refine k_i X h [0, 1, 2, 3] [] (wr := []) rfl rfl rfl (by decide) 975 728867 (Nat.le_of_ble_eq_true rfl) (Nat.le_of_ble_eq_true rfl) (k_runV X h (As := [.int c]) (rest := [.int 1]) (c7_key_ok l g H.size y y_refused y_document y_variables y_nodes y_node y_master y_isSet y_setMany y_setFrom y_setUsed y_setText y_atStop y_isFresh y_then y_choiceMany y_choiceFrom y_choiceLong y_choiceBytes y_text y_open y_shown y_nextNode y_endNode y_made y_beganAt y_ofNode y_isOwn y_begin y_size y_holding y_kept c h1 h2) cw_L_34 [0, 1, 2, 3] rfl rfl 0 kl7 rfl rfl rfl (Nat.le_of_ble_eq_true rfl) (Nat.le_of_ble_eq_true rfl) rfl hl.1 rfl (Nat.le_of_ble_eq_true rfl) dL_law_227 (Nat.le_of_ble_eq_true rfl) (Nat.le_of_ble_eq_true rfl)) (fun _ H locs h => ?_)
  have h : ST g (LA s) s [] H locs := h
  refine lv_icmp_eq (tgt := 660) hx hb dL_law_230 (by decide) (fun c_1 => ?_) (fun c_1 => absurd (by decide) c_1)
  exact law_tail X hX hbl h (lv_sub hl [0, 3] rfl) (Nat.le_of_ble_eq_true rfl) (Nat.le_of_ble_eq_true rfl)

set_option maxHeartbeats 4000000 in
set_option maxRecDepth 100000 in
theorem lw_rubs {nm : String} {g : GE} {pp : Program} {l : Launch} {ee : Env} {s : State} {m : MethodId} {bb : List Frame} {mm : Method} {cd : Code} {bs : Nat} {xs : Nat → Int32} {H : Heap} {locs : List Loc} {ls : Array Slot} (X : CX g pp s m mm cd #[Value.ref bs] cL_law 4 RL nm ret (LA s)) (hX : va_X bs 4 xs s s.heap) (hbl : bs < s.heap.size) {y x tx lk pa nO dO np nv ns nsh y_refused y_document y_variables y_nodes y_node y_master y_isSet y_setMany y_setFrom y_setUsed y_setText y_atStop y_isFresh y_then y_choiceMany y_choiceFrom y_choiceLong y_choiceBytes y_text y_open y_shown y_nextNode y_endNode y_made y_beganAt y_ofNode y_isOwn y_begin y_size y_holding y_kept : Nat} (h : ST g (LA s) s [(x, .inr (6, [.ref tx, .ref lk, .ref pa, .int 0, .ref nO, .ref dO, .int 0, .int 0, .int 0])), (nO, .inr (4, [.ref np, .int 0, .ref nv, .ref ns, .int 0, .ref nsh])), (y, .inr (7, [.ref y_refused, .ref y_document, .int 0, .int 0, .ref y_variables, .int 0, .ref y_nodes, .ref y_node, .ref y_master, .ref y_isSet, .ref y_setMany, .ref y_setFrom, .ref y_setUsed, .ref y_setText, .ref y_atStop, .ref y_isFresh, .ref y_then, .ref y_choiceMany, .ref y_choiceFrom, .ref y_choiceLong, .ref y_choiceBytes, .int 0, .ref y_text, .int 0, .int 0, .int 0, .int 0, .ref y_open, .int 0, .ref y_shown, .int 0, .int 0, .ref y_nextNode, .ref y_endNode, .ref y_made, .ref y_beganAt, .ref y_ofNode, .ref y_isOwn, .int 0, .ref y_begin, .ref y_size, .ref y_holding, .int 0, .ref y_kept, .int 0])), (y_refused, .inl (g.2 1, 3, .inl (fun _ => 0)))] H locs) (hl : lv_has ls 4 [(3, .int 0), (2, .ref y), (1, .ref x), (0, .ref bs)]) : W pp l ee room_1 s m #[Value.ref bs] bb mm cd H locs 973 728835 (lw_Z bb #[Value.ref bs] s) (F0 m 235 ls []) := by
  have hx := X.1
  have hb := X.2.1
  refine lv_aload_n hx hb dL_law_235 rfl (lv_at hl 2 rfl) ?_
  refine k_i X h [0, 1] [2, 3] (wr := [(y, .inr (7, [.ref y_refused, .ref y_document, .int 0, .int 0, .ref y_variables, .int 0, .ref y_nodes, .ref y_node, .ref y_master, .ref y_isSet, .ref y_setMany, .ref y_setFrom, .ref y_setUsed, .ref y_setText, .ref y_atStop, .ref y_isFresh, .ref y_then, .ref y_choiceMany, .ref y_choiceFrom, .ref y_choiceLong, .ref y_choiceBytes, .int 0, .ref y_text, .int 0, .int 0, .int 0, .int 0, .ref y_open, .int 0, .ref y_shown, .int 0, .int 0, .ref y_nextNode, .ref y_endNode, .ref y_made, .ref y_beganAt, .ref y_ofNode, .ref y_isOwn, .int 0, .ref y_begin, .ref y_size, .ref y_holding, .int 0, .ref y_kept, .int 0])), (y_refused, .inl (g.2 1, 3, .inl (fun _ => 0)))]) rfl rfl rfl (by decide) 973 728835 (Nat.le_of_ble_eq_true rfl) (Nat.le_of_ble_eq_true rfl) (k_runV X h (As := []) (rest := []) (c6_rubs l g H.size x tx lk pa nO dO np nv ns nsh) cw_L_35 [0, 1] rfl rfl 0 kl6 rfl rfl rfl (Nat.le_of_ble_eq_true rfl) (Nat.le_of_ble_eq_true rfl) rfl hl.1 rfl (Nat.le_of_ble_eq_true rfl) dL_law_236 (Nat.le_of_ble_eq_true rfl) (Nat.le_of_ble_eq_true rfl)) (fun _ H locs h => ?_)
  have h : ST g (LA s) s [(y, .inr (7, [.ref y_refused, .ref y_document, .int 0, .int 0, .ref y_variables, .int 0, .ref y_nodes, .ref y_node, .ref y_master, .ref y_isSet, .ref y_setMany, .ref y_setFrom, .ref y_setUsed, .ref y_setText, .ref y_atStop, .ref y_isFresh, .ref y_then, .ref y_choiceMany, .ref y_choiceFrom, .ref y_choiceLong, .ref y_choiceBytes, .int 0, .ref y_text, .int 0, .int 0, .int 0, .int 0, .ref y_open, .int 0, .ref y_shown, .int 0, .int 0, .ref y_nextNode, .ref y_endNode, .ref y_made, .ref y_beganAt, .ref y_ofNode, .ref y_isOwn, .int 0, .ref y_begin, .ref y_size, .ref y_holding, .int 0, .ref y_kept, .int 0])), (y_refused, .inl (g.2 1, 3, .inl (fun _ => 0)))] H locs := h
  refine lv_aload_n hx hb dL_law_239 rfl (lv_at hl 1 rfl) ?_
  refine k_i X h [0, 1] [] (wr := []) rfl rfl rfl (by decide) 973 728835 (Nat.le_of_ble_eq_true rfl) (Nat.le_of_ble_eq_true rfl) (k_runV X h (As := []) (rest := [.int (-3)]) (c7_rubs l g H.size y y_refused y_document y_variables y_nodes y_node y_master y_isSet y_setMany y_setFrom y_setUsed y_setText y_atStop y_isFresh y_then y_choiceMany y_choiceFrom y_choiceLong y_choiceBytes y_text y_open y_shown y_nextNode y_endNode y_made y_beganAt y_ofNode y_isOwn y_begin y_size y_holding y_kept) cw_L_38 [0, 1] rfl rfl 0 kl7 rfl rfl rfl (Nat.le_of_ble_eq_true rfl) (Nat.le_of_ble_eq_true rfl) rfl hl.1 rfl (Nat.le_of_ble_eq_true rfl) dL_law_240 (Nat.le_of_ble_eq_true rfl) (Nat.le_of_ble_eq_true rfl)) (fun _ H locs h => ?_)
  have h : ST g (LA s) s [] H locs := h
  refine lv_icmp_eq (tgt := 660) hx hb dL_law_243 (by decide) (fun c_1 => ?_) (fun c_1 => absurd (by decide) c_1)
  exact law_tail X hX hbl h (lv_sub hl [0, 3] rfl) (Nat.le_of_ble_eq_true rfl) (Nat.le_of_ble_eq_true rfl)

set_option maxHeartbeats 4000000 in
set_option maxRecDepth 100000 in
theorem lw_nexts {nm : String} {g : GE} {pp : Program} {l : Launch} {ee : Env} {s : State} {m : MethodId} {bb : List Frame} {mm : Method} {cd : Code} {bs : Nat} {xs : Nat → Int32} {H : Heap} {locs : List Loc} {ls : Array Slot} (X : CX g pp s m mm cd #[Value.ref bs] cL_law 4 RL nm ret (LA s)) (hX : va_X bs 4 xs s s.heap) (hbl : bs < s.heap.size) {y x tx lk pa nO dO np nv ns nsh y_refused y_document y_variables y_nodes y_node y_master y_isSet y_setMany y_setFrom y_setUsed y_setText y_atStop y_isFresh y_then y_choiceMany y_choiceFrom y_choiceLong y_choiceBytes y_text y_open y_shown y_nextNode y_endNode y_made y_beganAt y_ofNode y_isOwn y_begin y_size y_holding y_kept : Nat} (h : ST g (LA s) s [(x, .inr (6, [.ref tx, .ref lk, .ref pa, .int 0, .ref nO, .ref dO, .int 0, .int 0, .int 0])), (nO, .inr (4, [.ref np, .int 0, .ref nv, .ref ns, .int 0, .ref nsh])), (y, .inr (7, [.ref y_refused, .ref y_document, .int 0, .int 0, .ref y_variables, .int 0, .ref y_nodes, .ref y_node, .ref y_master, .ref y_isSet, .ref y_setMany, .ref y_setFrom, .ref y_setUsed, .ref y_setText, .ref y_atStop, .ref y_isFresh, .ref y_then, .ref y_choiceMany, .ref y_choiceFrom, .ref y_choiceLong, .ref y_choiceBytes, .int 0, .ref y_text, .int 0, .int 0, .int 0, .int 0, .ref y_open, .int 0, .ref y_shown, .int 0, .int 0, .ref y_nextNode, .ref y_endNode, .ref y_made, .ref y_beganAt, .ref y_ofNode, .ref y_isOwn, .int 0, .ref y_begin, .ref y_size, .ref y_holding, .int 0, .ref y_kept, .int 0])), (y_refused, .inl (g.2 1, 3, .inl (fun _ => 0)))] H locs) (hl : lv_has ls 4 [(3, .int 0), (2, .ref y), (1, .ref x), (0, .ref bs)]) : W pp l ee room_1 s m #[Value.ref bs] bb mm cd H locs 973 728835 (lw_Z bb #[Value.ref bs] s) (F0 m 248 ls []) := by
  have hx := X.1
  have hb := X.2.1
  refine lv_aload_n hx hb dL_law_248 rfl (lv_at hl 2 rfl) ?_
  refine k_i X h [0, 1] [2, 3] (wr := [(y, .inr (7, [.ref y_refused, .ref y_document, .int 0, .int 0, .ref y_variables, .int 0, .ref y_nodes, .ref y_node, .ref y_master, .ref y_isSet, .ref y_setMany, .ref y_setFrom, .ref y_setUsed, .ref y_setText, .ref y_atStop, .ref y_isFresh, .ref y_then, .ref y_choiceMany, .ref y_choiceFrom, .ref y_choiceLong, .ref y_choiceBytes, .int 0, .ref y_text, .int 0, .int 0, .int 0, .int 0, .ref y_open, .int 0, .ref y_shown, .int 0, .int 0, .ref y_nextNode, .ref y_endNode, .ref y_made, .ref y_beganAt, .ref y_ofNode, .ref y_isOwn, .int 0, .ref y_begin, .ref y_size, .ref y_holding, .int 0, .ref y_kept, .int 0])), (y_refused, .inl (g.2 1, 3, .inl (fun _ => 0)))]) rfl rfl rfl (by decide) 973 728835 (Nat.le_of_ble_eq_true rfl) (Nat.le_of_ble_eq_true rfl) (k_runV X h (As := []) (rest := []) (c6_nexts l g H.size x tx lk pa nO dO np nv ns nsh) cw_L_39 [0, 1] rfl rfl 0 kl6 rfl rfl rfl (Nat.le_of_ble_eq_true rfl) (Nat.le_of_ble_eq_true rfl) rfl hl.1 rfl (Nat.le_of_ble_eq_true rfl) dL_law_249 (Nat.le_of_ble_eq_true rfl) (Nat.le_of_ble_eq_true rfl)) (fun _ H locs h => ?_)
  have h : ST g (LA s) s [(y, .inr (7, [.ref y_refused, .ref y_document, .int 0, .int 0, .ref y_variables, .int 0, .ref y_nodes, .ref y_node, .ref y_master, .ref y_isSet, .ref y_setMany, .ref y_setFrom, .ref y_setUsed, .ref y_setText, .ref y_atStop, .ref y_isFresh, .ref y_then, .ref y_choiceMany, .ref y_choiceFrom, .ref y_choiceLong, .ref y_choiceBytes, .int 0, .ref y_text, .int 0, .int 0, .int 0, .int 0, .ref y_open, .int 0, .ref y_shown, .int 0, .int 0, .ref y_nextNode, .ref y_endNode, .ref y_made, .ref y_beganAt, .ref y_ofNode, .ref y_isOwn, .int 0, .ref y_begin, .ref y_size, .ref y_holding, .int 0, .ref y_kept, .int 0])), (y_refused, .inl (g.2 1, 3, .inl (fun _ => 0)))] H locs := h
  refine lv_aload_n hx hb dL_law_252 rfl (lv_at hl 1 rfl) ?_
  refine k_i X h [0, 1] [] (wr := []) rfl rfl rfl (by decide) 973 728835 (Nat.le_of_ble_eq_true rfl) (Nat.le_of_ble_eq_true rfl) (k_runV X h (As := []) (rest := [.int (-3)]) (c7_nexts l g H.size y y_refused y_document y_variables y_nodes y_node y_master y_isSet y_setMany y_setFrom y_setUsed y_setText y_atStop y_isFresh y_then y_choiceMany y_choiceFrom y_choiceLong y_choiceBytes y_text y_open y_shown y_nextNode y_endNode y_made y_beganAt y_ofNode y_isOwn y_begin y_size y_holding y_kept) cw_L_42 [0, 1] rfl rfl 0 kl7 rfl rfl rfl (Nat.le_of_ble_eq_true rfl) (Nat.le_of_ble_eq_true rfl) rfl hl.1 rfl (Nat.le_of_ble_eq_true rfl) dL_law_253 (Nat.le_of_ble_eq_true rfl) (Nat.le_of_ble_eq_true rfl)) (fun _ H locs h => ?_)
  have h : ST g (LA s) s [] H locs := h
  refine lv_icmp_eq (tgt := 660) hx hb dL_law_256 (by decide) (fun c_1 => ?_) (fun c_1 => absurd (by decide) c_1)
  exact law_tail X hX hbl h (lv_sub hl [0, 3] rfl) (Nat.le_of_ble_eq_true rfl) (Nat.le_of_ble_eq_true rfl)

set_option maxHeartbeats 4000000 in
set_option maxRecDepth 100000 in
theorem lw_prevs {nm : String} {g : GE} {pp : Program} {l : Launch} {ee : Env} {s : State} {m : MethodId} {bb : List Frame} {mm : Method} {cd : Code} {bs : Nat} {xs : Nat → Int32} {H : Heap} {locs : List Loc} {ls : Array Slot} (X : CX g pp s m mm cd #[Value.ref bs] cL_law 4 RL nm ret (LA s)) (hX : va_X bs 4 xs s s.heap) (hbl : bs < s.heap.size) {y x tx lk pa nO dO np nv ns nsh y_refused y_document y_variables y_nodes y_node y_master y_isSet y_setMany y_setFrom y_setUsed y_setText y_atStop y_isFresh y_then y_choiceMany y_choiceFrom y_choiceLong y_choiceBytes y_text y_open y_shown y_nextNode y_endNode y_made y_beganAt y_ofNode y_isOwn y_begin y_size y_holding y_kept : Nat} (h : ST g (LA s) s [(x, .inr (6, [.ref tx, .ref lk, .ref pa, .int 0, .ref nO, .ref dO, .int 0, .int 0, .int 0])), (nO, .inr (4, [.ref np, .int 0, .ref nv, .ref ns, .int 0, .ref nsh])), (y, .inr (7, [.ref y_refused, .ref y_document, .int 0, .int 0, .ref y_variables, .int 0, .ref y_nodes, .ref y_node, .ref y_master, .ref y_isSet, .ref y_setMany, .ref y_setFrom, .ref y_setUsed, .ref y_setText, .ref y_atStop, .ref y_isFresh, .ref y_then, .ref y_choiceMany, .ref y_choiceFrom, .ref y_choiceLong, .ref y_choiceBytes, .int 0, .ref y_text, .int 0, .int 0, .int 0, .int 0, .ref y_open, .int 0, .ref y_shown, .int 0, .int 0, .ref y_nextNode, .ref y_endNode, .ref y_made, .ref y_beganAt, .ref y_ofNode, .ref y_isOwn, .int 0, .ref y_begin, .ref y_size, .ref y_holding, .int 0, .ref y_kept, .int 0])), (y_refused, .inl (g.2 1, 3, .inl (fun _ => 0)))] H locs) (hl : lv_has ls 4 [(3, .int 0), (2, .ref y), (1, .ref x), (0, .ref bs)]) : W pp l ee room_1 s m #[Value.ref bs] bb mm cd H locs 973 728835 (lw_Z bb #[Value.ref bs] s) (F0 m 261 ls []) := by
  have hx := X.1
  have hb := X.2.1
  refine lv_aload_n hx hb dL_law_261 rfl (lv_at hl 2 rfl) ?_
  refine k_i X h [0, 1] [2, 3] (wr := [(y, .inr (7, [.ref y_refused, .ref y_document, .int 0, .int 0, .ref y_variables, .int 0, .ref y_nodes, .ref y_node, .ref y_master, .ref y_isSet, .ref y_setMany, .ref y_setFrom, .ref y_setUsed, .ref y_setText, .ref y_atStop, .ref y_isFresh, .ref y_then, .ref y_choiceMany, .ref y_choiceFrom, .ref y_choiceLong, .ref y_choiceBytes, .int 0, .ref y_text, .int 0, .int 0, .int 0, .int 0, .ref y_open, .int 0, .ref y_shown, .int 0, .int 0, .ref y_nextNode, .ref y_endNode, .ref y_made, .ref y_beganAt, .ref y_ofNode, .ref y_isOwn, .int 0, .ref y_begin, .ref y_size, .ref y_holding, .int 0, .ref y_kept, .int 0])), (y_refused, .inl (g.2 1, 3, .inl (fun _ => 0)))]) rfl rfl rfl (by decide) 973 728835 (Nat.le_of_ble_eq_true rfl) (Nat.le_of_ble_eq_true rfl) (k_runV X h (As := []) (rest := []) (c6_prevs l g H.size x tx lk pa nO dO np nv ns nsh) cw_L_43 [0, 1] rfl rfl 0 kl6 rfl rfl rfl (Nat.le_of_ble_eq_true rfl) (Nat.le_of_ble_eq_true rfl) rfl hl.1 rfl (Nat.le_of_ble_eq_true rfl) dL_law_262 (Nat.le_of_ble_eq_true rfl) (Nat.le_of_ble_eq_true rfl)) (fun _ H locs h => ?_)
  have h : ST g (LA s) s [(y, .inr (7, [.ref y_refused, .ref y_document, .int 0, .int 0, .ref y_variables, .int 0, .ref y_nodes, .ref y_node, .ref y_master, .ref y_isSet, .ref y_setMany, .ref y_setFrom, .ref y_setUsed, .ref y_setText, .ref y_atStop, .ref y_isFresh, .ref y_then, .ref y_choiceMany, .ref y_choiceFrom, .ref y_choiceLong, .ref y_choiceBytes, .int 0, .ref y_text, .int 0, .int 0, .int 0, .int 0, .ref y_open, .int 0, .ref y_shown, .int 0, .int 0, .ref y_nextNode, .ref y_endNode, .ref y_made, .ref y_beganAt, .ref y_ofNode, .ref y_isOwn, .int 0, .ref y_begin, .ref y_size, .ref y_holding, .int 0, .ref y_kept, .int 0])), (y_refused, .inl (g.2 1, 3, .inl (fun _ => 0)))] H locs := h
  refine lv_aload_n hx hb dL_law_265 rfl (lv_at hl 1 rfl) ?_
  refine k_i X h [0, 1] [] (wr := []) rfl rfl rfl (by decide) 973 728835 (Nat.le_of_ble_eq_true rfl) (Nat.le_of_ble_eq_true rfl) (k_runV X h (As := []) (rest := [.int (-3)]) (c7_prevs l g H.size y y_refused y_document y_variables y_nodes y_node y_master y_isSet y_setMany y_setFrom y_setUsed y_setText y_atStop y_isFresh y_then y_choiceMany y_choiceFrom y_choiceLong y_choiceBytes y_text y_open y_shown y_nextNode y_endNode y_made y_beganAt y_ofNode y_isOwn y_begin y_size y_holding y_kept) cw_L_46 [0, 1] rfl rfl 0 kl7 rfl rfl rfl (Nat.le_of_ble_eq_true rfl) (Nat.le_of_ble_eq_true rfl) rfl hl.1 rfl (Nat.le_of_ble_eq_true rfl) dL_law_266 (Nat.le_of_ble_eq_true rfl) (Nat.le_of_ble_eq_true rfl)) (fun _ H locs h => ?_)
  have h : ST g (LA s) s [] H locs := h
  refine lv_icmp_eq (tgt := 660) hx hb dL_law_269 (by decide) (fun c_1 => ?_) (fun c_1 => absurd (by decide) c_1)
  exact law_tail X hX hbl h (lv_sub hl [0, 3] rfl) (Nat.le_of_ble_eq_true rfl) (Nat.le_of_ble_eq_true rfl)

set_option maxHeartbeats 4000000 in
set_option maxRecDepth 100000 in
theorem lw_picks_lo {nm : String} {g : GE} {pp : Program} {l : Launch} {ee : Env} {s : State} {m : MethodId} {bb : List Frame} {mm : Method} {cd : Code} {bs : Nat} {xs : Nat → Int32} {H : Heap} {locs : List Loc} {ls : Array Slot} (X : CX g pp s m mm cd #[Value.ref bs] cL_law 4 RL nm ret (LA s)) (hX : va_X bs 4 xs s s.heap) (hbl : bs < s.heap.size) {y x tx lk pa nO dO y_refused y_document y_variables y_nodes y_node y_master y_isSet y_setMany y_setFrom y_setUsed y_setText y_atStop y_isFresh y_then y_choiceMany y_choiceFrom y_choiceLong y_choiceBytes y_text y_open y_shown y_nextNode y_endNode y_made y_beganAt y_ofNode y_isOwn y_begin y_size y_holding y_kept : Nat} (h : ST g (LA s) s [(x, .inr (6, [.ref tx, .ref lk, .ref pa, .int 0, .ref nO, .ref dO, .int 0, .int 0, .int 0])), (y, .inr (7, [.ref y_refused, .ref y_document, .int 0, .int 0, .ref y_variables, .int 0, .ref y_nodes, .ref y_node, .ref y_master, .ref y_isSet, .ref y_setMany, .ref y_setFrom, .ref y_setUsed, .ref y_setText, .ref y_atStop, .ref y_isFresh, .ref y_then, .ref y_choiceMany, .ref y_choiceFrom, .ref y_choiceLong, .ref y_choiceBytes, .int 0, .ref y_text, .int 0, .int 0, .int 0, .int 0, .ref y_open, .int 0, .ref y_shown, .int 0, .int 0, .ref y_nextNode, .ref y_endNode, .ref y_made, .ref y_beganAt, .ref y_ofNode, .ref y_isOwn, .int 0, .ref y_begin, .ref y_size, .ref y_holding, .int 0, .ref y_kept, .int 0])), (y_refused, .inl (g.2 1, 3, .inl (fun _ => 0)))] H locs) (hl : lv_has ls 4 [(3, .int 0), (2, .ref y), (1, .ref x), (0, .ref bs)]) {c : Int32} (e1 : xs 1 = c) (h1 : c < 0) : W pp l ee room_1 s m #[Value.ref bs] bb mm cd H locs 973 728835 (lw_Z bb #[Value.ref bs] s) (F0 m 274 ls []) := by
  have hx := X.1
  have hb := X.2.1
  refine lv_aload_n hx hb dL_law_274 rfl (lv_at hl 2 rfl) ?_
  refine lv_aload_n hx hb dL_law_275 rfl (lv_at hl 3 rfl) ?_
  refine lv_iload_n hx hb dL_law_276 rfl (lv_at hl 0 rfl) ?_
  refine lv_iconst (v := 1) hx hb dL_law_277 (by decide) ?_
  refine lv_iadd hx hb dL_law_278 ?_
  refine r_vi (y := 1) (by decide) ?_
  refine r_sld X hX hbl h (v := xs 1) (vp_lit (by decide +kernel)) rfl dL_law_279 ?_
  refine r_vi (y := c) e1 ?_
  refine k_i X h [0] [1, 2] (wr := [(y, .inr (7, [.ref y_refused, .ref y_document, .int 0, .int 0, .ref y_variables, .int 0, .ref y_nodes, .ref y_node, .ref y_master, .ref y_isSet, .ref y_setMany, .ref y_setFrom, .ref y_setUsed, .ref y_setText, .ref y_atStop, .ref y_isFresh, .ref y_then, .ref y_choiceMany, .ref y_choiceFrom, .ref y_choiceLong, .ref y_choiceBytes, .int 0, .ref y_text, .int 0, .int 0, .int 0, .int 0, .ref y_open, .int 0, .ref y_shown, .int 0, .int 0, .ref y_nextNode, .ref y_endNode, .ref y_made, .ref y_beganAt, .ref y_ofNode, .ref y_isOwn, .int 0, .ref y_begin, .ref y_size, .ref y_holding, .int 0, .ref y_kept, .int 0])), (y_refused, .inl (g.2 1, 3, .inl (fun _ => 0)))]) rfl rfl rfl (by decide) 973 728835 (Nat.le_of_ble_eq_true rfl) (Nat.le_of_ble_eq_true rfl) (k_runV X h (As := [.int c]) (rest := []) (c6_picks_lo l g H.size x tx lk pa nO dO c h1) cw_L_47 [0] rfl rfl 0 kl6 rfl rfl rfl (Nat.le_of_ble_eq_true rfl) (Nat.le_of_ble_eq_true rfl) rfl hl.1 rfl (Nat.le_of_ble_eq_true rfl) dL_law_280 (Nat.le_of_ble_eq_true rfl) (Nat.le_of_ble_eq_true rfl)) (fun _ H locs h => ?_)
  have h : ST g (LA s) s [(y, .inr (7, [.ref y_refused, .ref y_document, .int 0, .int 0, .ref y_variables, .int 0, .ref y_nodes, .ref y_node, .ref y_master, .ref y_isSet, .ref y_setMany, .ref y_setFrom, .ref y_setUsed, .ref y_setText, .ref y_atStop, .ref y_isFresh, .ref y_then, .ref y_choiceMany, .ref y_choiceFrom, .ref y_choiceLong, .ref y_choiceBytes, .int 0, .ref y_text, .int 0, .int 0, .int 0, .int 0, .ref y_open, .int 0, .ref y_shown, .int 0, .int 0, .ref y_nextNode, .ref y_endNode, .ref y_made, .ref y_beganAt, .ref y_ofNode, .ref y_isOwn, .int 0, .ref y_begin, .ref y_size, .ref y_holding, .int 0, .ref y_kept, .int 0])), (y_refused, .inl (g.2 1, 3, .inl (fun _ => 0)))] H locs := h
  refine lv_aload_n hx hb dL_law_283 rfl (lv_at hl 1 rfl) ?_
  refine lv_aload_n hx hb dL_law_284 rfl (lv_at hl 3 rfl) ?_
  refine lv_iload_n hx hb dL_law_285 rfl (lv_at hl 0 rfl) ?_
  refine lv_iconst (v := 1) hx hb dL_law_286 (by decide) ?_
  refine lv_iadd hx hb dL_law_287 ?_
  refine r_vi (y := 1) (by decide) ?_
  refine r_sld X hX hbl h (v := xs 1) (vp_lit (by decide +kernel)) rfl dL_law_288 ?_
  refine r_vi (y := c) e1 ?_
  refine k_i X h [0, 1] [] (wr := []) rfl rfl rfl (by decide) 973 728835 (Nat.le_of_ble_eq_true rfl) (Nat.le_of_ble_eq_true rfl) (k_runV X h (As := [.int c]) (rest := [.int (-2)]) (c7_picks_lo l g H.size y y_refused y_document y_variables y_nodes y_node y_master y_isSet y_setMany y_setFrom y_setUsed y_setText y_atStop y_isFresh y_then y_choiceMany y_choiceFrom y_choiceLong y_choiceBytes y_text y_open y_shown y_nextNode y_endNode y_made y_beganAt y_ofNode y_isOwn y_begin y_size y_holding y_kept c h1) cw_L_50 [0, 1] rfl rfl 0 kl7 rfl rfl rfl (Nat.le_of_ble_eq_true rfl) (Nat.le_of_ble_eq_true rfl) rfl hl.1 rfl (Nat.le_of_ble_eq_true rfl) dL_law_289 (Nat.le_of_ble_eq_true rfl) (Nat.le_of_ble_eq_true rfl)) (fun _ H locs h => ?_)
  have h : ST g (LA s) s [] H locs := h
  refine lv_icmp_eq (tgt := 660) hx hb dL_law_292 (by decide) (fun c_1 => ?_) (fun c_1 => absurd (by decide) c_1)
  exact law_tail X hX hbl h (lv_sub hl [0, 3] rfl) (Nat.le_of_ble_eq_true rfl) (Nat.le_of_ble_eq_true rfl)

set_option maxHeartbeats 4000000 in
set_option maxRecDepth 100000 in
theorem lw_picks_ok {nm : String} {g : GE} {pp : Program} {l : Launch} {ee : Env} {s : State} {m : MethodId} {bb : List Frame} {mm : Method} {cd : Code} {bs : Nat} {xs : Nat → Int32} {H : Heap} {locs : List Loc} {ls : Array Slot} (X : CX g pp s m mm cd #[Value.ref bs] cL_law 4 RL nm ret (LA s)) (hX : va_X bs 4 xs s s.heap) (hbl : bs < s.heap.size) {y x tx lk pa nO dO np nv ns nsh y_refused y_document y_variables y_nodes y_node y_master y_isSet y_setMany y_setFrom y_setUsed y_setText y_atStop y_isFresh y_then y_choiceMany y_choiceFrom y_choiceLong y_choiceBytes y_text y_open y_shown y_nextNode y_endNode y_made y_beganAt y_ofNode y_isOwn y_begin y_size y_holding y_kept : Nat} (h : ST g (LA s) s [(x, .inr (6, [.ref tx, .ref lk, .ref pa, .int 0, .ref nO, .ref dO, .int 0, .int 0, .int 0])), (nO, .inr (4, [.ref np, .int 0, .ref nv, .ref ns, .int 0, .ref nsh])), (y, .inr (7, [.ref y_refused, .ref y_document, .int 0, .int 0, .ref y_variables, .int 0, .ref y_nodes, .ref y_node, .ref y_master, .ref y_isSet, .ref y_setMany, .ref y_setFrom, .ref y_setUsed, .ref y_setText, .ref y_atStop, .ref y_isFresh, .ref y_then, .ref y_choiceMany, .ref y_choiceFrom, .ref y_choiceLong, .ref y_choiceBytes, .int 0, .ref y_text, .int 0, .int 0, .int 0, .int 0, .ref y_open, .int 0, .ref y_shown, .int 0, .int 0, .ref y_nextNode, .ref y_endNode, .ref y_made, .ref y_beganAt, .ref y_ofNode, .ref y_isOwn, .int 0, .ref y_begin, .ref y_size, .ref y_holding, .int 0, .ref y_kept, .int 0])), (y_refused, .inl (g.2 1, 3, .inl (fun _ => 0)))] H locs) (hl : lv_has ls 4 [(3, .int 0), (2, .ref y), (1, .ref x), (0, .ref bs)]) {c : Int32} (e1 : xs 1 = c) (h1 : ¬ c < 0) : W pp l ee room_1 s m #[Value.ref bs] bb mm cd H locs 973 728835 (lw_Z bb #[Value.ref bs] s) (F0 m 274 ls []) := by
  have hx := X.1
  have hb := X.2.1
  refine lv_aload_n hx hb dL_law_274 rfl (lv_at hl 2 rfl) ?_
  refine lv_aload_n hx hb dL_law_275 rfl (lv_at hl 3 rfl) ?_
  refine lv_iload_n hx hb dL_law_276 rfl (lv_at hl 0 rfl) ?_
  refine lv_iconst (v := 1) hx hb dL_law_277 (by decide) ?_
  refine lv_iadd hx hb dL_law_278 ?_
  refine r_vi (y := 1) (by decide) ?_
  refine r_sld X hX hbl h (v := xs 1) (vp_lit (by decide +kernel)) rfl dL_law_279 ?_
  refine r_vi (y := c) e1 ?_
  refine k_i X h [0, 1] [2, 3] (wr := [(y, .inr (7, [.ref y_refused, .ref y_document, .int 0, .int 0, .ref y_variables, .int 0, .ref y_nodes, .ref y_node, .ref y_master, .ref y_isSet, .ref y_setMany, .ref y_setFrom, .ref y_setUsed, .ref y_setText, .ref y_atStop, .ref y_isFresh, .ref y_then, .ref y_choiceMany, .ref y_choiceFrom, .ref y_choiceLong, .ref y_choiceBytes, .int 0, .ref y_text, .int 0, .int 0, .int 0, .int 0, .ref y_open, .int 0, .ref y_shown, .int 0, .int 0, .ref y_nextNode, .ref y_endNode, .ref y_made, .ref y_beganAt, .ref y_ofNode, .ref y_isOwn, .int 0, .ref y_begin, .ref y_size, .ref y_holding, .int 0, .ref y_kept, .int 0])), (y_refused, .inl (g.2 1, 3, .inl (fun _ => 0)))]) rfl rfl rfl (by decide) 973 728835 (Nat.le_of_ble_eq_true rfl) (Nat.le_of_ble_eq_true rfl) (k_runV X h (As := [.int c]) (rest := []) (c6_picks_ok l g H.size x tx lk pa nO dO np nv ns nsh c h1) cw_L_47 [0, 1] rfl rfl 0 kl6 rfl rfl rfl (Nat.le_of_ble_eq_true rfl) (Nat.le_of_ble_eq_true rfl) rfl hl.1 rfl (Nat.le_of_ble_eq_true rfl) dL_law_280 (Nat.le_of_ble_eq_true rfl) (Nat.le_of_ble_eq_true rfl)) (fun _ H locs h => ?_)
  have h : ST g (LA s) s [(y, .inr (7, [.ref y_refused, .ref y_document, .int 0, .int 0, .ref y_variables, .int 0, .ref y_nodes, .ref y_node, .ref y_master, .ref y_isSet, .ref y_setMany, .ref y_setFrom, .ref y_setUsed, .ref y_setText, .ref y_atStop, .ref y_isFresh, .ref y_then, .ref y_choiceMany, .ref y_choiceFrom, .ref y_choiceLong, .ref y_choiceBytes, .int 0, .ref y_text, .int 0, .int 0, .int 0, .int 0, .ref y_open, .int 0, .ref y_shown, .int 0, .int 0, .ref y_nextNode, .ref y_endNode, .ref y_made, .ref y_beganAt, .ref y_ofNode, .ref y_isOwn, .int 0, .ref y_begin, .ref y_size, .ref y_holding, .int 0, .ref y_kept, .int 0])), (y_refused, .inl (g.2 1, 3, .inl (fun _ => 0)))] H locs := h
  refine lv_aload_n hx hb dL_law_283 rfl (lv_at hl 1 rfl) ?_
  refine lv_aload_n hx hb dL_law_284 rfl (lv_at hl 3 rfl) ?_
  refine lv_iload_n hx hb dL_law_285 rfl (lv_at hl 0 rfl) ?_
  refine lv_iconst (v := 1) hx hb dL_law_286 (by decide) ?_
  refine lv_iadd hx hb dL_law_287 ?_
  refine r_vi (y := 1) (by decide) ?_
  refine r_sld X hX hbl h (v := xs 1) (vp_lit (by decide +kernel)) rfl dL_law_288 ?_
  refine r_vi (y := c) e1 ?_
  refine k_i X h [0, 1] [] (wr := []) rfl rfl rfl (by decide) 973 728835 (Nat.le_of_ble_eq_true rfl) (Nat.le_of_ble_eq_true rfl) (k_runV X h (As := [.int c]) (rest := [.int (-3)]) (c7_picks_ok l g H.size y y_refused y_document y_variables y_nodes y_node y_master y_isSet y_setMany y_setFrom y_setUsed y_setText y_atStop y_isFresh y_then y_choiceMany y_choiceFrom y_choiceLong y_choiceBytes y_text y_open y_shown y_nextNode y_endNode y_made y_beganAt y_ofNode y_isOwn y_begin y_size y_holding y_kept c h1) cw_L_50 [0, 1] rfl rfl 0 kl7 rfl rfl rfl (Nat.le_of_ble_eq_true rfl) (Nat.le_of_ble_eq_true rfl) rfl hl.1 rfl (Nat.le_of_ble_eq_true rfl) dL_law_289 (Nat.le_of_ble_eq_true rfl) (Nat.le_of_ble_eq_true rfl)) (fun _ H locs h => ?_)
  have h : ST g (LA s) s [] H locs := h
  refine lv_icmp_eq (tgt := 660) hx hb dL_law_292 (by decide) (fun c_1 => ?_) (fun c_1 => absurd (by decide) c_1)
  exact law_tail X hX hbl h (lv_sub hl [0, 3] rfl) (Nat.le_of_ble_eq_true rfl) (Nat.le_of_ble_eq_true rfl)

set_option maxHeartbeats 4000000 in
set_option maxRecDepth 100000 in
theorem lw_ends {nm : String} {g : GE} {pp : Program} {l : Launch} {ee : Env} {s : State} {m : MethodId} {bb : List Frame} {mm : Method} {cd : Code} {bs : Nat} {xs : Nat → Int32} {H : Heap} {locs : List Loc} {ls : Array Slot} (X : CX g pp s m mm cd #[Value.ref bs] cL_law 4 RL nm ret (LA s)) (hX : va_X bs 4 xs s s.heap) (hbl : bs < s.heap.size) {y x tx lk pa nO dO np nv ns nsh y_refused y_document y_variables y_nodes y_node y_master y_isSet y_setMany y_setFrom y_setUsed y_setText y_atStop y_isFresh y_then y_choiceMany y_choiceFrom y_choiceLong y_choiceBytes y_text y_open y_shown y_nextNode y_endNode y_made y_beganAt y_ofNode y_isOwn y_begin y_size y_holding y_kept : Nat} (h : ST g (LA s) s [(x, .inr (6, [.ref tx, .ref lk, .ref pa, .int 0, .ref nO, .ref dO, .int 0, .int 0, .int 0])), (nO, .inr (4, [.ref np, .int 0, .ref nv, .ref ns, .int 0, .ref nsh])), (y, .inr (7, [.ref y_refused, .ref y_document, .int 0, .int 0, .ref y_variables, .int 0, .ref y_nodes, .ref y_node, .ref y_master, .ref y_isSet, .ref y_setMany, .ref y_setFrom, .ref y_setUsed, .ref y_setText, .ref y_atStop, .ref y_isFresh, .ref y_then, .ref y_choiceMany, .ref y_choiceFrom, .ref y_choiceLong, .ref y_choiceBytes, .int 0, .ref y_text, .int 0, .int 0, .int 0, .int 0, .ref y_open, .int 0, .ref y_shown, .int 0, .int 0, .ref y_nextNode, .ref y_endNode, .ref y_made, .ref y_beganAt, .ref y_ofNode, .ref y_isOwn, .int 0, .ref y_begin, .ref y_size, .ref y_holding, .int 0, .ref y_kept, .int 0])), (y_refused, .inl (g.2 1, 3, .inl (fun _ => 0)))] H locs) (hl : lv_has ls 4 [(3, .int 0), (2, .ref y), (1, .ref x), (0, .ref bs)]) : W pp l ee room_1 s m #[Value.ref bs] bb mm cd H locs 973 728835 (lw_Z bb #[Value.ref bs] s) (F0 m 297 ls []) := by
  have hx := X.1
  have hb := X.2.1
  refine lv_aload_n hx hb dL_law_297 rfl (lv_at hl 2 rfl) ?_
  refine k_i X h [0, 1] [2, 3] (wr := [(y, .inr (7, [.ref y_refused, .ref y_document, .int 0, .int 0, .ref y_variables, .int 0, .ref y_nodes, .ref y_node, .ref y_master, .ref y_isSet, .ref y_setMany, .ref y_setFrom, .ref y_setUsed, .ref y_setText, .ref y_atStop, .ref y_isFresh, .ref y_then, .ref y_choiceMany, .ref y_choiceFrom, .ref y_choiceLong, .ref y_choiceBytes, .int 0, .ref y_text, .int 0, .int 0, .int 0, .int 0, .ref y_open, .int 0, .ref y_shown, .int 0, .int 0, .ref y_nextNode, .ref y_endNode, .ref y_made, .ref y_beganAt, .ref y_ofNode, .ref y_isOwn, .int 0, .ref y_begin, .ref y_size, .ref y_holding, .int 0, .ref y_kept, .int 0])), (y_refused, .inl (g.2 1, 3, .inl (fun _ => 0)))]) rfl rfl rfl (by decide) 973 728835 (Nat.le_of_ble_eq_true rfl) (Nat.le_of_ble_eq_true rfl) (k_runV X h (As := []) (rest := []) (c6_ends l g H.size x tx lk pa nO dO np nv ns nsh) cw_L_51 [0, 1] rfl rfl 0 kl6 rfl rfl rfl (Nat.le_of_ble_eq_true rfl) (Nat.le_of_ble_eq_true rfl) rfl hl.1 rfl (Nat.le_of_ble_eq_true rfl) dL_law_298 (Nat.le_of_ble_eq_true rfl) (Nat.le_of_ble_eq_true rfl)) (fun _ H locs h => ?_)
  have h : ST g (LA s) s [(y, .inr (7, [.ref y_refused, .ref y_document, .int 0, .int 0, .ref y_variables, .int 0, .ref y_nodes, .ref y_node, .ref y_master, .ref y_isSet, .ref y_setMany, .ref y_setFrom, .ref y_setUsed, .ref y_setText, .ref y_atStop, .ref y_isFresh, .ref y_then, .ref y_choiceMany, .ref y_choiceFrom, .ref y_choiceLong, .ref y_choiceBytes, .int 0, .ref y_text, .int 0, .int 0, .int 0, .int 0, .ref y_open, .int 0, .ref y_shown, .int 0, .int 0, .ref y_nextNode, .ref y_endNode, .ref y_made, .ref y_beganAt, .ref y_ofNode, .ref y_isOwn, .int 0, .ref y_begin, .ref y_size, .ref y_holding, .int 0, .ref y_kept, .int 0])), (y_refused, .inl (g.2 1, 3, .inl (fun _ => 0)))] H locs := h
  refine lv_aload_n hx hb dL_law_301 rfl (lv_at hl 1 rfl) ?_
  refine k_i X h [0, 1] [] (wr := []) rfl rfl rfl (by decide) 973 728835 (Nat.le_of_ble_eq_true rfl) (Nat.le_of_ble_eq_true rfl) (k_runV X h (As := []) (rest := [.int (-3)]) (c7_ends l g H.size y y_refused y_document y_variables y_nodes y_node y_master y_isSet y_setMany y_setFrom y_setUsed y_setText y_atStop y_isFresh y_then y_choiceMany y_choiceFrom y_choiceLong y_choiceBytes y_text y_open y_shown y_nextNode y_endNode y_made y_beganAt y_ofNode y_isOwn y_begin y_size y_holding y_kept) cw_L_54 [0, 1] rfl rfl 0 kl7 rfl rfl rfl (Nat.le_of_ble_eq_true rfl) (Nat.le_of_ble_eq_true rfl) rfl hl.1 rfl (Nat.le_of_ble_eq_true rfl) dL_law_302 (Nat.le_of_ble_eq_true rfl) (Nat.le_of_ble_eq_true rfl)) (fun _ H locs h => ?_)
  have h : ST g (LA s) s [] H locs := h
  refine lv_icmp_eq (tgt := 660) hx hb dL_law_305 (by decide) (fun c_1 => ?_) (fun c_1 => absurd (by decide) c_1)
  exact law_tail X hX hbl h (lv_sub hl [0, 3] rfl) (Nat.le_of_ble_eq_true rfl) (Nat.le_of_ble_eq_true rfl)

set_option maxHeartbeats 4000000 in
set_option maxRecDepth 100000 in
theorem lw_caret_lo {nm : String} {g : GE} {pp : Program} {l : Launch} {ee : Env} {s : State} {m : MethodId} {bb : List Frame} {mm : Method} {cd : Code} {bs : Nat} {xs : Nat → Int32} {H : Heap} {locs : List Loc} {ls : Array Slot} (X : CX g pp s m mm cd #[Value.ref bs] cL_law 4 RL nm ret (LA s)) (hX : va_X bs 4 xs s s.heap) (hbl : bs < s.heap.size) {y x tx lk pa nO dO y_refused y_document y_variables y_nodes y_node y_master y_isSet y_setMany y_setFrom y_setUsed y_setText y_atStop y_isFresh y_then y_choiceMany y_choiceFrom y_choiceLong y_choiceBytes y_text y_open y_shown y_nextNode y_endNode y_made y_beganAt y_ofNode y_isOwn y_begin y_size y_holding y_kept : Nat} (h : ST g (LA s) s [(x, .inr (6, [.ref tx, .ref lk, .ref pa, .int 0, .ref nO, .ref dO, .int 0, .int 0, .int 0])), (y, .inr (7, [.ref y_refused, .ref y_document, .int 0, .int 0, .ref y_variables, .int 0, .ref y_nodes, .ref y_node, .ref y_master, .ref y_isSet, .ref y_setMany, .ref y_setFrom, .ref y_setUsed, .ref y_setText, .ref y_atStop, .ref y_isFresh, .ref y_then, .ref y_choiceMany, .ref y_choiceFrom, .ref y_choiceLong, .ref y_choiceBytes, .int 0, .ref y_text, .int 0, .int 0, .int 0, .int 0, .ref y_open, .int 0, .ref y_shown, .int 0, .int 0, .ref y_nextNode, .ref y_endNode, .ref y_made, .ref y_beganAt, .ref y_ofNode, .ref y_isOwn, .int 0, .ref y_begin, .ref y_size, .ref y_holding, .int 0, .ref y_kept, .int 0])), (y_refused, .inl (g.2 1, 3, .inl (fun _ => 0)))] H locs) (hl : lv_has ls 4 [(3, .int 0), (2, .ref y), (1, .ref x), (0, .ref bs)]) {c : Int32} (e1 : xs 1 = c) (h1 : c < 0) : W pp l ee room_1 s m #[Value.ref bs] bb mm cd H locs 973 728835 (lw_Z bb #[Value.ref bs] s) (F0 m 310 ls []) := by
  have hx := X.1
  have hb := X.2.1
  refine lv_aload_n hx hb dL_law_310 rfl (lv_at hl 2 rfl) ?_
  refine lv_aload_n hx hb dL_law_311 rfl (lv_at hl 3 rfl) ?_
  refine lv_iload_n hx hb dL_law_312 rfl (lv_at hl 0 rfl) ?_
  refine lv_iconst (v := 1) hx hb dL_law_313 (by decide) ?_
  refine lv_iadd hx hb dL_law_314 ?_
  refine r_vi (y := 1) (by decide) ?_
  refine r_sld X hX hbl h (v := xs 1) (vp_lit (by decide +kernel)) rfl dL_law_315 ?_
  refine r_vi (y := c) e1 ?_
  refine k_i X h [0] [1, 2] (wr := [(y, .inr (7, [.ref y_refused, .ref y_document, .int 0, .int 0, .ref y_variables, .int 0, .ref y_nodes, .ref y_node, .ref y_master, .ref y_isSet, .ref y_setMany, .ref y_setFrom, .ref y_setUsed, .ref y_setText, .ref y_atStop, .ref y_isFresh, .ref y_then, .ref y_choiceMany, .ref y_choiceFrom, .ref y_choiceLong, .ref y_choiceBytes, .int 0, .ref y_text, .int 0, .int 0, .int 0, .int 0, .ref y_open, .int 0, .ref y_shown, .int 0, .int 0, .ref y_nextNode, .ref y_endNode, .ref y_made, .ref y_beganAt, .ref y_ofNode, .ref y_isOwn, .int 0, .ref y_begin, .ref y_size, .ref y_holding, .int 0, .ref y_kept, .int 0])), (y_refused, .inl (g.2 1, 3, .inl (fun _ => 0)))]) rfl rfl rfl (by decide) 973 728835 (Nat.le_of_ble_eq_true rfl) (Nat.le_of_ble_eq_true rfl) (k_runV X h (As := [.int c]) (rest := []) (c6_caret_lo l g H.size x tx lk pa nO dO c h1) cw_L_55 [0] rfl rfl 0 kl6 rfl rfl rfl (Nat.le_of_ble_eq_true rfl) (Nat.le_of_ble_eq_true rfl) rfl hl.1 rfl (Nat.le_of_ble_eq_true rfl) dL_law_316 (Nat.le_of_ble_eq_true rfl) (Nat.le_of_ble_eq_true rfl)) (fun _ H locs h => ?_)
  have h : ST g (LA s) s [(y, .inr (7, [.ref y_refused, .ref y_document, .int 0, .int 0, .ref y_variables, .int 0, .ref y_nodes, .ref y_node, .ref y_master, .ref y_isSet, .ref y_setMany, .ref y_setFrom, .ref y_setUsed, .ref y_setText, .ref y_atStop, .ref y_isFresh, .ref y_then, .ref y_choiceMany, .ref y_choiceFrom, .ref y_choiceLong, .ref y_choiceBytes, .int 0, .ref y_text, .int 0, .int 0, .int 0, .int 0, .ref y_open, .int 0, .ref y_shown, .int 0, .int 0, .ref y_nextNode, .ref y_endNode, .ref y_made, .ref y_beganAt, .ref y_ofNode, .ref y_isOwn, .int 0, .ref y_begin, .ref y_size, .ref y_holding, .int 0, .ref y_kept, .int 0])), (y_refused, .inl (g.2 1, 3, .inl (fun _ => 0)))] H locs := h
  refine lv_aload_n hx hb dL_law_319 rfl (lv_at hl 1 rfl) ?_
  refine lv_aload_n hx hb dL_law_320 rfl (lv_at hl 3 rfl) ?_
  refine lv_iload_n hx hb dL_law_321 rfl (lv_at hl 0 rfl) ?_
  refine lv_iconst (v := 1) hx hb dL_law_322 (by decide) ?_
  refine lv_iadd hx hb dL_law_323 ?_
  refine r_vi (y := 1) (by decide) ?_
  refine r_sld X hX hbl h (v := xs 1) (vp_lit (by decide +kernel)) rfl dL_law_324 ?_
  refine r_vi (y := c) e1 ?_
  refine k_i X h [0, 1] [] (wr := []) rfl rfl rfl (by decide) 973 728835 (Nat.le_of_ble_eq_true rfl) (Nat.le_of_ble_eq_true rfl) (k_runV X h (As := [.int c]) (rest := [.int (-2)]) (c7_caret_lo l g H.size y y_refused y_document y_variables y_nodes y_node y_master y_isSet y_setMany y_setFrom y_setUsed y_setText y_atStop y_isFresh y_then y_choiceMany y_choiceFrom y_choiceLong y_choiceBytes y_text y_open y_shown y_nextNode y_endNode y_made y_beganAt y_ofNode y_isOwn y_begin y_size y_holding y_kept c h1) cw_L_58 [0, 1] rfl rfl 0 kl7 rfl rfl rfl (Nat.le_of_ble_eq_true rfl) (Nat.le_of_ble_eq_true rfl) rfl hl.1 rfl (Nat.le_of_ble_eq_true rfl) dL_law_325 (Nat.le_of_ble_eq_true rfl) (Nat.le_of_ble_eq_true rfl)) (fun _ H locs h => ?_)
  have h : ST g (LA s) s [] H locs := h
  refine lv_icmp_eq (tgt := 660) hx hb dL_law_328 (by decide) (fun c_1 => ?_) (fun c_1 => absurd (by decide) c_1)
  exact law_tail X hX hbl h (lv_sub hl [0, 3] rfl) (Nat.le_of_ble_eq_true rfl) (Nat.le_of_ble_eq_true rfl)

set_option maxHeartbeats 4000000 in
set_option maxRecDepth 100000 in
theorem lw_caret_hi {nm : String} {g : GE} {pp : Program} {l : Launch} {ee : Env} {s : State} {m : MethodId} {bb : List Frame} {mm : Method} {cd : Code} {bs : Nat} {xs : Nat → Int32} {H : Heap} {locs : List Loc} {ls : Array Slot} (X : CX g pp s m mm cd #[Value.ref bs] cL_law 4 RL nm ret (LA s)) (hX : va_X bs 4 xs s s.heap) (hbl : bs < s.heap.size) {y x tx lk pa nO dO np nv ns nsh nshb y_refused y_document y_variables y_nodes y_node y_master y_isSet y_setMany y_setFrom y_setUsed y_setText y_atStop y_isFresh y_then y_choiceMany y_choiceFrom y_choiceLong y_choiceBytes y_text y_open y_shown y_nextNode y_endNode y_made y_beganAt y_ofNode y_isOwn y_begin y_size y_holding y_kept : Nat} (h : ST g (LA s) s [(x, .inr (6, [.ref tx, .ref lk, .ref pa, .int 0, .ref nO, .ref dO, .int 0, .int 0, .int 0])), (nO, .inr (4, [.ref np, .int 0, .ref nv, .ref ns, .int 0, .ref nsh])), (nsh, .inr (2, [.int 241, .ref nshb, .int 0])), (y, .inr (7, [.ref y_refused, .ref y_document, .int 0, .int 0, .ref y_variables, .int 0, .ref y_nodes, .ref y_node, .ref y_master, .ref y_isSet, .ref y_setMany, .ref y_setFrom, .ref y_setUsed, .ref y_setText, .ref y_atStop, .ref y_isFresh, .ref y_then, .ref y_choiceMany, .ref y_choiceFrom, .ref y_choiceLong, .ref y_choiceBytes, .int 0, .ref y_text, .int 0, .int 0, .int 0, .int 0, .ref y_open, .int 0, .ref y_shown, .int 0, .int 0, .ref y_nextNode, .ref y_endNode, .ref y_made, .ref y_beganAt, .ref y_ofNode, .ref y_isOwn, .int 0, .ref y_begin, .ref y_size, .ref y_holding, .int 0, .ref y_kept, .int 0])), (y_refused, .inl (g.2 1, 3, .inl (fun _ => 0)))] H locs) (hl : lv_has ls 4 [(3, .int 0), (2, .ref y), (1, .ref x), (0, .ref bs)]) {c : Int32} (e1 : xs 1 = c) (h1 : ¬ c < 0) (h2 : 0 < c) : W pp l ee room_1 s m #[Value.ref bs] bb mm cd H locs 973 728835 (lw_Z bb #[Value.ref bs] s) (F0 m 310 ls []) := by
  have hx := X.1
  have hb := X.2.1
  refine lv_aload_n hx hb dL_law_310 rfl (lv_at hl 2 rfl) ?_
  refine lv_aload_n hx hb dL_law_311 rfl (lv_at hl 3 rfl) ?_
  refine lv_iload_n hx hb dL_law_312 rfl (lv_at hl 0 rfl) ?_
  refine lv_iconst (v := 1) hx hb dL_law_313 (by decide) ?_
  refine lv_iadd hx hb dL_law_314 ?_
  refine r_vi (y := 1) (by decide) ?_
  refine r_sld X hX hbl h (v := xs 1) (vp_lit (by decide +kernel)) rfl dL_law_315 ?_
  refine r_vi (y := c) e1 ?_
  refine k_i X h [0, 1, 2] [3, 4] (wr := [(y, .inr (7, [.ref y_refused, .ref y_document, .int 0, .int 0, .ref y_variables, .int 0, .ref y_nodes, .ref y_node, .ref y_master, .ref y_isSet, .ref y_setMany, .ref y_setFrom, .ref y_setUsed, .ref y_setText, .ref y_atStop, .ref y_isFresh, .ref y_then, .ref y_choiceMany, .ref y_choiceFrom, .ref y_choiceLong, .ref y_choiceBytes, .int 0, .ref y_text, .int 0, .int 0, .int 0, .int 0, .ref y_open, .int 0, .ref y_shown, .int 0, .int 0, .ref y_nextNode, .ref y_endNode, .ref y_made, .ref y_beganAt, .ref y_ofNode, .ref y_isOwn, .int 0, .ref y_begin, .ref y_size, .ref y_holding, .int 0, .ref y_kept, .int 0])), (y_refused, .inl (g.2 1, 3, .inl (fun _ => 0)))]) rfl rfl rfl (by decide) 973 728835 (Nat.le_of_ble_eq_true rfl) (Nat.le_of_ble_eq_true rfl) (k_runV X h (As := [.int c]) (rest := []) (c6_caret_hi l g H.size x tx lk pa nO dO np nv ns nsh nshb c h1 h2) cw_L_55 [0, 1, 2] rfl rfl 0 kl6 rfl rfl rfl (Nat.le_of_ble_eq_true rfl) (Nat.le_of_ble_eq_true rfl) rfl hl.1 rfl (Nat.le_of_ble_eq_true rfl) dL_law_316 (Nat.le_of_ble_eq_true rfl) (Nat.le_of_ble_eq_true rfl)) (fun _ H locs h => ?_)
  have h : ST g (LA s) s [(y, .inr (7, [.ref y_refused, .ref y_document, .int 0, .int 0, .ref y_variables, .int 0, .ref y_nodes, .ref y_node, .ref y_master, .ref y_isSet, .ref y_setMany, .ref y_setFrom, .ref y_setUsed, .ref y_setText, .ref y_atStop, .ref y_isFresh, .ref y_then, .ref y_choiceMany, .ref y_choiceFrom, .ref y_choiceLong, .ref y_choiceBytes, .int 0, .ref y_text, .int 0, .int 0, .int 0, .int 0, .ref y_open, .int 0, .ref y_shown, .int 0, .int 0, .ref y_nextNode, .ref y_endNode, .ref y_made, .ref y_beganAt, .ref y_ofNode, .ref y_isOwn, .int 0, .ref y_begin, .ref y_size, .ref y_holding, .int 0, .ref y_kept, .int 0])), (y_refused, .inl (g.2 1, 3, .inl (fun _ => 0)))] H locs := h
  refine lv_aload_n hx hb dL_law_319 rfl (lv_at hl 1 rfl) ?_
  refine lv_aload_n hx hb dL_law_320 rfl (lv_at hl 3 rfl) ?_
  refine lv_iload_n hx hb dL_law_321 rfl (lv_at hl 0 rfl) ?_
  refine lv_iconst (v := 1) hx hb dL_law_322 (by decide) ?_
  refine lv_iadd hx hb dL_law_323 ?_
  refine r_vi (y := 1) (by decide) ?_
  refine r_sld X hX hbl h (v := xs 1) (vp_lit (by decide +kernel)) rfl dL_law_324 ?_
  refine r_vi (y := c) e1 ?_
  refine k_i X h [0, 1] [] (wr := []) rfl rfl rfl (by decide) 973 728835 (Nat.le_of_ble_eq_true rfl) (Nat.le_of_ble_eq_true rfl) (k_runV X h (As := [.int c]) (rest := [.int (-2)]) (c7_caret_hi l g H.size y y_refused y_document y_variables y_nodes y_node y_master y_isSet y_setMany y_setFrom y_setUsed y_setText y_atStop y_isFresh y_then y_choiceMany y_choiceFrom y_choiceLong y_choiceBytes y_text y_open y_shown y_nextNode y_endNode y_made y_beganAt y_ofNode y_isOwn y_begin y_size y_holding y_kept c h1 h2) cw_L_58 [0, 1] rfl rfl 0 kl7 rfl rfl rfl (Nat.le_of_ble_eq_true rfl) (Nat.le_of_ble_eq_true rfl) rfl hl.1 rfl (Nat.le_of_ble_eq_true rfl) dL_law_325 (Nat.le_of_ble_eq_true rfl) (Nat.le_of_ble_eq_true rfl)) (fun _ H locs h => ?_)
  have h : ST g (LA s) s [] H locs := h
  refine lv_icmp_eq (tgt := 660) hx hb dL_law_328 (by decide) (fun c_1 => ?_) (fun c_1 => absurd (by decide) c_1)
  exact law_tail X hX hbl h (lv_sub hl [0, 3] rfl) (Nat.le_of_ble_eq_true rfl) (Nat.le_of_ble_eq_true rfl)

set_option maxHeartbeats 4000000 in
set_option maxRecDepth 100000 in
theorem lw_caret_ok {nm : String} {g : GE} {pp : Program} {l : Launch} {ee : Env} {s : State} {m : MethodId} {bb : List Frame} {mm : Method} {cd : Code} {bs : Nat} {xs : Nat → Int32} {H : Heap} {locs : List Loc} {ls : Array Slot} (X : CX g pp s m mm cd #[Value.ref bs] cL_law 4 RL nm ret (LA s)) (hX : va_X bs 4 xs s s.heap) (hbl : bs < s.heap.size) {y x tx lk pa nO dO p0 p1 p2 p3 p4 p5 p6 p7 np nv ns nsh npb nv0 nv1 nv2 nv3 nv0b nv1b nv2b nv3b nshb dp dv ds dsh dpb dv0 dv1 dv2 dv3 dv0b dv1b dv2b dv3b ds0 ds1 ds2 dshb y_refused y_document y_variables y_nodes y_node y_master y_isSet y_setMany y_setFrom y_setUsed y_setText y_atStop y_isFresh y_then y_choiceMany y_choiceFrom y_choiceLong y_choiceBytes y_text y_open y_shown y_nextNode y_endNode y_made y_beganAt y_ofNode y_isOwn y_begin y_size y_holding y_kept : Nat} (h : ST g (LA s) s [(x, .inr (6, [.ref tx, .ref lk, .ref pa, .int 0, .ref nO, .ref dO, .int 0, .int 0, .int 0])), (pa, .inl (g.2 6, 8, .inr (.inr (.inr (.inr (va_up (va_up (va_up (va_up (va_up (va_up (va_up (va_up (fun _ => none) 0 (some p0)) 1 (some p1)) 2 (some p2)) 3 (some p3)) 4 (some p4)) 5 (some p5)) 6 (some p6)) 7 (some p7))))))), (nO, .inr (4, [.ref np, .int 0, .ref nv, .ref ns, .int 0, .ref nsh])), (np, .inr (2, [.int 241, .ref npb, .int 0])), (nv, .inl (g.2 4, 4, .inr (.inr (.inr (.inr (va_up (va_up (va_up (va_up (fun _ => none) 0 (some nv0)) 1 (some nv1)) 2 (some nv2)) 3 (some nv3))))))), (nv0, .inr (2, [.int 12, .ref nv0b, .int 0])), (nv1, .inr (2, [.int 12, .ref nv1b, .int 0])), (nv2, .inr (2, [.int 12, .ref nv2b, .int 0])), (nv3, .inr (2, [.int 12, .ref nv3b, .int 0])), (nsh, .inr (2, [.int 241, .ref nshb, .int 0])), (dO, .inr (4, [.ref dp, .int 0, .ref dv, .ref ds, .int 0, .ref dsh])), (dp, .inr (2, [.int 241, .ref dpb, .int 0])), (dv, .inl (g.2 4, 4, .inr (.inr (.inr (.inr (va_up (va_up (va_up (va_up (fun _ => none) 0 (some dv0)) 1 (some dv1)) 2 (some dv2)) 3 (some dv3))))))), (dv0, .inr (2, [.int 12, .ref dv0b, .int 0])), (dv1, .inr (2, [.int 12, .ref dv1b, .int 0])), (dv2, .inr (2, [.int 12, .ref dv2b, .int 0])), (dv3, .inr (2, [.int 12, .ref dv3b, .int 0])), (ds, .inl (g.2 5, 3, .inr (.inr (.inr (.inr (va_up (va_up (va_up (fun _ => none) 0 (some ds0)) 1 (some ds1)) 2 (some ds2))))))), (dsh, .inr (2, [.int 241, .ref dshb, .int 0])), (y, .inr (7, [.ref y_refused, .ref y_document, .int 0, .int 0, .ref y_variables, .int 0, .ref y_nodes, .ref y_node, .ref y_master, .ref y_isSet, .ref y_setMany, .ref y_setFrom, .ref y_setUsed, .ref y_setText, .ref y_atStop, .ref y_isFresh, .ref y_then, .ref y_choiceMany, .ref y_choiceFrom, .ref y_choiceLong, .ref y_choiceBytes, .int 0, .ref y_text, .int 0, .int 0, .int 0, .int 0, .ref y_open, .int 0, .ref y_shown, .int 0, .int 0, .ref y_nextNode, .ref y_endNode, .ref y_made, .ref y_beganAt, .ref y_ofNode, .ref y_isOwn, .int 0, .ref y_begin, .ref y_size, .ref y_holding, .int 0, .ref y_kept, .int 0])), (y_document, .inl (g.2 1, 240, .inl (fun _ => 0))), (y_variables, .inl (g.2 1, 52, .inl (fun _ => 0))), (y_kept, .inl (g.2 1, 630000, .inl (fun _ => 0)))] H locs) (hl : lv_has ls 4 [(3, .int 0), (2, .ref y), (1, .ref x), (0, .ref bs)]) (e1 : xs 1 = 0) : W pp l ee room_1 s m #[Value.ref bs] bb mm cd H locs 973 728835 (lw_Z bb #[Value.ref bs] s) (F0 m 310 ls []) := by
  have hx := X.1
  have hb := X.2.1
  refine lv_aload_n hx hb dL_law_310 rfl (lv_at hl 2 rfl) ?_
  refine lv_aload_n hx hb dL_law_311 rfl (lv_at hl 3 rfl) ?_
  refine lv_iload_n hx hb dL_law_312 rfl (lv_at hl 0 rfl) ?_
  refine lv_iconst (v := 1) hx hb dL_law_313 (by decide) ?_
  refine lv_iadd hx hb dL_law_314 ?_
  refine r_vi (y := 1) (by decide) ?_
  refine r_sld X hX hbl h (v := xs 1) (vp_lit (by decide +kernel)) rfl dL_law_315 ?_
  refine r_vi (y := 0) e1 ?_
  refine k_i X h [0, 1, 2, 3, 4, 5, 6, 7, 8, 9, 10, 11, 12, 13, 14, 15, 16, 17, 18] [19, 20, 21, 22] (wr := [(y, .inr (7, [.ref y_refused, .ref y_document, .int 0, .int 0, .ref y_variables, .int 0, .ref y_nodes, .ref y_node, .ref y_master, .ref y_isSet, .ref y_setMany, .ref y_setFrom, .ref y_setUsed, .ref y_setText, .ref y_atStop, .ref y_isFresh, .ref y_then, .ref y_choiceMany, .ref y_choiceFrom, .ref y_choiceLong, .ref y_choiceBytes, .int 0, .ref y_text, .int 0, .int 0, .int 0, .int 0, .ref y_open, .int 0, .ref y_shown, .int 0, .int 0, .ref y_nextNode, .ref y_endNode, .ref y_made, .ref y_beganAt, .ref y_ofNode, .ref y_isOwn, .int 0, .ref y_begin, .ref y_size, .ref y_holding, .int 0, .ref y_kept, .int 0])), (y_document, .inl (g.2 1, 240, .inl (fun _ => 0))), (y_variables, .inl (g.2 1, 52, .inl (fun _ => 0))), (y_kept, .inl (g.2 1, 630000, .inl (fun _ => 0)))]) rfl rfl rfl (by decide) 973 728835 (Nat.le_of_ble_eq_true rfl) (Nat.le_of_ble_eq_true rfl) (k_runV X h (As := [.int 0]) (rest := []) (c6_caret_ok l g H.size x tx lk pa nO dO p0 p1 p2 p3 p4 p5 p6 p7 np nv ns nsh npb nv0 nv1 nv2 nv3 nv0b nv1b nv2b nv3b nshb dp dv ds dsh dpb dv0 dv1 dv2 dv3 dv0b dv1b dv2b dv3b ds0 ds1 ds2 dshb) cw_L_55 [0, 1, 2, 3, 4, 5, 6, 7, 8, 9, 10, 11, 12, 13, 14, 15, 16, 17, 18] rfl rfl 0 kl6 rfl rfl rfl (Nat.le_of_ble_eq_true rfl) (Nat.le_of_ble_eq_true rfl) rfl hl.1 rfl (Nat.le_of_ble_eq_true rfl) dL_law_316 (Nat.le_of_ble_eq_true rfl) (Nat.le_of_ble_eq_true rfl)) (fun _ H locs h => ?_)
  have h : ST g (LA s) s [(y, .inr (7, [.ref y_refused, .ref y_document, .int 0, .int 0, .ref y_variables, .int 0, .ref y_nodes, .ref y_node, .ref y_master, .ref y_isSet, .ref y_setMany, .ref y_setFrom, .ref y_setUsed, .ref y_setText, .ref y_atStop, .ref y_isFresh, .ref y_then, .ref y_choiceMany, .ref y_choiceFrom, .ref y_choiceLong, .ref y_choiceBytes, .int 0, .ref y_text, .int 0, .int 0, .int 0, .int 0, .ref y_open, .int 0, .ref y_shown, .int 0, .int 0, .ref y_nextNode, .ref y_endNode, .ref y_made, .ref y_beganAt, .ref y_ofNode, .ref y_isOwn, .int 0, .ref y_begin, .ref y_size, .ref y_holding, .int 0, .ref y_kept, .int 0])), (y_document, .inl (g.2 1, 240, .inl (fun _ => 0))), (y_variables, .inl (g.2 1, 52, .inl (fun _ => 0))), (y_kept, .inl (g.2 1, 630000, .inl (fun _ => 0)))] H locs := h
  refine lv_aload_n hx hb dL_law_319 rfl (lv_at hl 1 rfl) ?_
  refine lv_aload_n hx hb dL_law_320 rfl (lv_at hl 3 rfl) ?_
  refine lv_iload_n hx hb dL_law_321 rfl (lv_at hl 0 rfl) ?_
  refine lv_iconst (v := 1) hx hb dL_law_322 (by decide) ?_
  refine lv_iadd hx hb dL_law_323 ?_
  refine r_vi (y := 1) (by decide) ?_
  refine r_sld X hX hbl h (v := xs 1) (vp_lit (by decide +kernel)) rfl dL_law_324 ?_
  refine r_vi (y := 0) e1 ?_
  refine k_i X h [0, 1, 2, 3] [] (wr := []) rfl rfl rfl (by decide) 973 728835 (Nat.le_of_ble_eq_true rfl) (Nat.le_of_ble_eq_true rfl) (k_runV X h (As := [.int 0]) (rest := [.int 0]) (c7_caret_ok l g H.size y y_refused y_document y_variables y_nodes y_node y_master y_isSet y_setMany y_setFrom y_setUsed y_setText y_atStop y_isFresh y_then y_choiceMany y_choiceFrom y_choiceLong y_choiceBytes y_text y_open y_shown y_nextNode y_endNode y_made y_beganAt y_ofNode y_isOwn y_begin y_size y_holding y_kept) cw_L_58 [0, 1, 2, 3] rfl rfl 0 kl7 rfl rfl rfl (Nat.le_of_ble_eq_true rfl) (Nat.le_of_ble_eq_true rfl) rfl hl.1 rfl (Nat.le_of_ble_eq_true rfl) dL_law_325 (Nat.le_of_ble_eq_true rfl) (Nat.le_of_ble_eq_true rfl)) (fun _ H locs h => ?_)
  have h : ST g (LA s) s [] H locs := h
  refine lv_icmp_eq (tgt := 660) hx hb dL_law_328 (by decide) (fun c_1 => ?_) (fun c_1 => absurd (by decide) c_1)
  exact law_tail X hX hbl h (lv_sub hl [0, 3] rfl) (Nat.le_of_ble_eq_true rfl) (Nat.le_of_ble_eq_true rfl)

set_option maxHeartbeats 4000000 in
set_option maxRecDepth 100000 in
theorem lw_cuts_lo {nm : String} {g : GE} {pp : Program} {l : Launch} {ee : Env} {s : State} {m : MethodId} {bb : List Frame} {mm : Method} {cd : Code} {bs : Nat} {xs : Nat → Int32} {H : Heap} {locs : List Loc} {ls : Array Slot} (X : CX g pp s m mm cd #[Value.ref bs] cL_law 4 RL nm ret (LA s)) (hX : va_X bs 4 xs s s.heap) (hbl : bs < s.heap.size) {y x tx lk pa nO dO np nv ns nsh nshb y_refused y_document y_variables y_nodes y_node y_master y_isSet y_setMany y_setFrom y_setUsed y_setText y_atStop y_isFresh y_then y_choiceMany y_choiceFrom y_choiceLong y_choiceBytes y_text y_open y_shown y_nextNode y_endNode y_made y_beganAt y_ofNode y_isOwn y_begin y_size y_holding y_kept : Nat} (h : ST g (LA s) s [(x, .inr (6, [.ref tx, .ref lk, .ref pa, .int 0, .ref nO, .ref dO, .int 0, .int 0, .int 0])), (nO, .inr (4, [.ref np, .int 0, .ref nv, .ref ns, .int 0, .ref nsh])), (nsh, .inr (2, [.int 241, .ref nshb, .int 0])), (y, .inr (7, [.ref y_refused, .ref y_document, .int 0, .int 0, .ref y_variables, .int 0, .ref y_nodes, .ref y_node, .ref y_master, .ref y_isSet, .ref y_setMany, .ref y_setFrom, .ref y_setUsed, .ref y_setText, .ref y_atStop, .ref y_isFresh, .ref y_then, .ref y_choiceMany, .ref y_choiceFrom, .ref y_choiceLong, .ref y_choiceBytes, .int 0, .ref y_text, .int 0, .int 0, .int 0, .int 0, .ref y_open, .int 0, .ref y_shown, .int 0, .int 0, .ref y_nextNode, .ref y_endNode, .ref y_made, .ref y_beganAt, .ref y_ofNode, .ref y_isOwn, .int 0, .ref y_begin, .ref y_size, .ref y_holding, .int 0, .ref y_kept, .int 0])), (y_refused, .inl (g.2 1, 3, .inl (fun _ => 0)))] H locs) (hl : lv_has ls 4 [(3, .int 0), (2, .ref y), (1, .ref x), (0, .ref bs)]) {c : Int32} {n : Int32} (e1 : xs 1 = c) (e2 : xs 2 = n) (h1 : c < 0) : W pp l ee room_1 s m #[Value.ref bs] bb mm cd H locs 973 728835 (lw_Z bb #[Value.ref bs] s) (F0 m 333 ls []) := by
  have hx := X.1
  have hb := X.2.1
  refine lv_aload_n hx hb dL_law_333 rfl (lv_at hl 2 rfl) ?_
  refine lv_aload_n hx hb dL_law_334 rfl (lv_at hl 3 rfl) ?_
  refine lv_iload_n hx hb dL_law_335 rfl (lv_at hl 0 rfl) ?_
  refine lv_iconst (v := 1) hx hb dL_law_336 (by decide) ?_
  refine lv_iadd hx hb dL_law_337 ?_
  refine r_vi (y := 1) (by decide) ?_
  refine r_sld X hX hbl h (v := xs 1) (vp_lit (by decide +kernel)) rfl dL_law_338 ?_
  refine r_vi (y := c) e1 ?_
  refine lv_aload_n hx hb dL_law_339 rfl (lv_at hl 3 rfl) ?_
  refine lv_iload_n hx hb dL_law_340 rfl (lv_at hl 0 rfl) ?_
  refine lv_iconst (v := 2) hx hb dL_law_341 (by decide) ?_
  refine lv_iadd hx hb dL_law_342 ?_
  refine r_vi (y := 2) (by decide) ?_
  refine r_sld X hX hbl h (v := xs 2) (vp_lit (by decide +kernel)) rfl dL_law_343 ?_
  refine r_vi (y := n) e2 ?_
  refine k_i X h [0, 1, 2] [3, 4] (wr := [(y, .inr (7, [.ref y_refused, .ref y_document, .int 0, .int 0, .ref y_variables, .int 0, .ref y_nodes, .ref y_node, .ref y_master, .ref y_isSet, .ref y_setMany, .ref y_setFrom, .ref y_setUsed, .ref y_setText, .ref y_atStop, .ref y_isFresh, .ref y_then, .ref y_choiceMany, .ref y_choiceFrom, .ref y_choiceLong, .ref y_choiceBytes, .int 0, .ref y_text, .int 0, .int 0, .int 0, .int 0, .ref y_open, .int 0, .ref y_shown, .int 0, .int 0, .ref y_nextNode, .ref y_endNode, .ref y_made, .ref y_beganAt, .ref y_ofNode, .ref y_isOwn, .int 0, .ref y_begin, .ref y_size, .ref y_holding, .int 0, .ref y_kept, .int 0])), (y_refused, .inl (g.2 1, 3, .inl (fun _ => 0)))]) rfl rfl rfl (by decide) 973 728835 (Nat.le_of_ble_eq_true rfl) (Nat.le_of_ble_eq_true rfl) (k_runV X h (As := [.int c, .int n]) (rest := []) (c6_cuts_lo l g H.size x tx lk pa nO dO np nv ns nsh nshb c n h1) cw_L_59 [0, 1, 2] rfl rfl 0 kl6 rfl rfl rfl (Nat.le_of_ble_eq_true rfl) (Nat.le_of_ble_eq_true rfl) rfl hl.1 rfl (Nat.le_of_ble_eq_true rfl) dL_law_344 (Nat.le_of_ble_eq_true rfl) (Nat.le_of_ble_eq_true rfl)) (fun _ H locs h => ?_)
  have h : ST g (LA s) s [(y, .inr (7, [.ref y_refused, .ref y_document, .int 0, .int 0, .ref y_variables, .int 0, .ref y_nodes, .ref y_node, .ref y_master, .ref y_isSet, .ref y_setMany, .ref y_setFrom, .ref y_setUsed, .ref y_setText, .ref y_atStop, .ref y_isFresh, .ref y_then, .ref y_choiceMany, .ref y_choiceFrom, .ref y_choiceLong, .ref y_choiceBytes, .int 0, .ref y_text, .int 0, .int 0, .int 0, .int 0, .ref y_open, .int 0, .ref y_shown, .int 0, .int 0, .ref y_nextNode, .ref y_endNode, .ref y_made, .ref y_beganAt, .ref y_ofNode, .ref y_isOwn, .int 0, .ref y_begin, .ref y_size, .ref y_holding, .int 0, .ref y_kept, .int 0])), (y_refused, .inl (g.2 1, 3, .inl (fun _ => 0)))] H locs := h
  refine lv_aload_n hx hb dL_law_347 rfl (lv_at hl 1 rfl) ?_
  refine lv_aload_n hx hb dL_law_348 rfl (lv_at hl 3 rfl) ?_
  refine lv_iload_n hx hb dL_law_349 rfl (lv_at hl 0 rfl) ?_
  refine lv_iconst (v := 1) hx hb dL_law_350 (by decide) ?_
  refine lv_iadd hx hb dL_law_351 ?_
  refine r_vi (y := 1) (by decide) ?_
  refine r_sld X hX hbl h (v := xs 1) (vp_lit (by decide +kernel)) rfl dL_law_352 ?_
  refine r_vi (y := c) e1 ?_
  refine lv_aload_n hx hb dL_law_353 rfl (lv_at hl 3 rfl) ?_
  refine lv_iload_n hx hb dL_law_354 rfl (lv_at hl 0 rfl) ?_
  refine lv_iconst (v := 2) hx hb dL_law_355 (by decide) ?_
  refine lv_iadd hx hb dL_law_356 ?_
  refine r_vi (y := 2) (by decide) ?_
  refine r_sld X hX hbl h (v := xs 2) (vp_lit (by decide +kernel)) rfl dL_law_357 ?_
  refine r_vi (y := n) e2 ?_
  refine k_i X h [0, 1] [] (wr := []) rfl rfl rfl (by decide) 973 728835 (Nat.le_of_ble_eq_true rfl) (Nat.le_of_ble_eq_true rfl) (k_runV X h (As := [.int c, .int n]) (rest := [.int (-2)]) (c7_cuts_lo l g H.size y y_refused y_document y_variables y_nodes y_node y_master y_isSet y_setMany y_setFrom y_setUsed y_setText y_atStop y_isFresh y_then y_choiceMany y_choiceFrom y_choiceLong y_choiceBytes y_text y_open y_shown y_nextNode y_endNode y_made y_beganAt y_ofNode y_isOwn y_begin y_size y_holding y_kept c n h1) cw_L_63 [0, 1] rfl rfl 0 kl7 rfl rfl rfl (Nat.le_of_ble_eq_true rfl) (Nat.le_of_ble_eq_true rfl) rfl hl.1 rfl (Nat.le_of_ble_eq_true rfl) dL_law_358 (Nat.le_of_ble_eq_true rfl) (Nat.le_of_ble_eq_true rfl)) (fun _ H locs h => ?_)
  have h : ST g (LA s) s [] H locs := h
  refine lv_icmp_eq (tgt := 660) hx hb dL_law_361 (by decide) (fun c_1 => ?_) (fun c_1 => absurd (by decide) c_1)
  exact law_tail X hX hbl h (lv_sub hl [0, 3] rfl) (Nat.le_of_ble_eq_true rfl) (Nat.le_of_ble_eq_true rfl)

set_option maxHeartbeats 4000000 in
set_option maxRecDepth 100000 in
theorem lw_cuts_hi {nm : String} {g : GE} {pp : Program} {l : Launch} {ee : Env} {s : State} {m : MethodId} {bb : List Frame} {mm : Method} {cd : Code} {bs : Nat} {xs : Nat → Int32} {H : Heap} {locs : List Loc} {ls : Array Slot} (X : CX g pp s m mm cd #[Value.ref bs] cL_law 4 RL nm ret (LA s)) (hX : va_X bs 4 xs s s.heap) (hbl : bs < s.heap.size) {y x tx lk pa nO dO np nv ns nsh nshb y_refused y_document y_variables y_nodes y_node y_master y_isSet y_setMany y_setFrom y_setUsed y_setText y_atStop y_isFresh y_then y_choiceMany y_choiceFrom y_choiceLong y_choiceBytes y_text y_open y_shown y_nextNode y_endNode y_made y_beganAt y_ofNode y_isOwn y_begin y_size y_holding y_kept : Nat} (h : ST g (LA s) s [(x, .inr (6, [.ref tx, .ref lk, .ref pa, .int 0, .ref nO, .ref dO, .int 0, .int 0, .int 0])), (nO, .inr (4, [.ref np, .int 0, .ref nv, .ref ns, .int 0, .ref nsh])), (nsh, .inr (2, [.int 241, .ref nshb, .int 0])), (y, .inr (7, [.ref y_refused, .ref y_document, .int 0, .int 0, .ref y_variables, .int 0, .ref y_nodes, .ref y_node, .ref y_master, .ref y_isSet, .ref y_setMany, .ref y_setFrom, .ref y_setUsed, .ref y_setText, .ref y_atStop, .ref y_isFresh, .ref y_then, .ref y_choiceMany, .ref y_choiceFrom, .ref y_choiceLong, .ref y_choiceBytes, .int 0, .ref y_text, .int 0, .int 0, .int 0, .int 0, .ref y_open, .int 0, .ref y_shown, .int 0, .int 0, .ref y_nextNode, .ref y_endNode, .ref y_made, .ref y_beganAt, .ref y_ofNode, .ref y_isOwn, .int 0, .ref y_begin, .ref y_size, .ref y_holding, .int 0, .ref y_kept, .int 0])), (y_refused, .inl (g.2 1, 3, .inl (fun _ => 0)))] H locs) (hl : lv_has ls 4 [(3, .int 0), (2, .ref y), (1, .ref x), (0, .ref bs)]) {c : Int32} {n : Int32} (e1 : xs 1 = c) (e2 : xs 2 = n) (h1 : ¬ c < 0) (h2 : 0 < c) : W pp l ee room_1 s m #[Value.ref bs] bb mm cd H locs 973 728835 (lw_Z bb #[Value.ref bs] s) (F0 m 333 ls []) := by
  have hx := X.1
  have hb := X.2.1
  refine lv_aload_n hx hb dL_law_333 rfl (lv_at hl 2 rfl) ?_
  refine lv_aload_n hx hb dL_law_334 rfl (lv_at hl 3 rfl) ?_
  refine lv_iload_n hx hb dL_law_335 rfl (lv_at hl 0 rfl) ?_
  refine lv_iconst (v := 1) hx hb dL_law_336 (by decide) ?_
  refine lv_iadd hx hb dL_law_337 ?_
  refine r_vi (y := 1) (by decide) ?_
  refine r_sld X hX hbl h (v := xs 1) (vp_lit (by decide +kernel)) rfl dL_law_338 ?_
  refine r_vi (y := c) e1 ?_
  refine lv_aload_n hx hb dL_law_339 rfl (lv_at hl 3 rfl) ?_
  refine lv_iload_n hx hb dL_law_340 rfl (lv_at hl 0 rfl) ?_
  refine lv_iconst (v := 2) hx hb dL_law_341 (by decide) ?_
  refine lv_iadd hx hb dL_law_342 ?_
  refine r_vi (y := 2) (by decide) ?_
  refine r_sld X hX hbl h (v := xs 2) (vp_lit (by decide +kernel)) rfl dL_law_343 ?_
  refine r_vi (y := n) e2 ?_
  refine k_i X h [0, 1, 2] [3, 4] (wr := [(y, .inr (7, [.ref y_refused, .ref y_document, .int 0, .int 0, .ref y_variables, .int 0, .ref y_nodes, .ref y_node, .ref y_master, .ref y_isSet, .ref y_setMany, .ref y_setFrom, .ref y_setUsed, .ref y_setText, .ref y_atStop, .ref y_isFresh, .ref y_then, .ref y_choiceMany, .ref y_choiceFrom, .ref y_choiceLong, .ref y_choiceBytes, .int 0, .ref y_text, .int 0, .int 0, .int 0, .int 0, .ref y_open, .int 0, .ref y_shown, .int 0, .int 0, .ref y_nextNode, .ref y_endNode, .ref y_made, .ref y_beganAt, .ref y_ofNode, .ref y_isOwn, .int 0, .ref y_begin, .ref y_size, .ref y_holding, .int 0, .ref y_kept, .int 0])), (y_refused, .inl (g.2 1, 3, .inl (fun _ => 0)))]) rfl rfl rfl (by decide) 973 728835 (Nat.le_of_ble_eq_true rfl) (Nat.le_of_ble_eq_true rfl) (k_runV X h (As := [.int c, .int n]) (rest := []) (c6_cuts_hi l g H.size x tx lk pa nO dO np nv ns nsh nshb c n h1 h2) cw_L_59 [0, 1, 2] rfl rfl 0 kl6 rfl rfl rfl (Nat.le_of_ble_eq_true rfl) (Nat.le_of_ble_eq_true rfl) rfl hl.1 rfl (Nat.le_of_ble_eq_true rfl) dL_law_344 (Nat.le_of_ble_eq_true rfl) (Nat.le_of_ble_eq_true rfl)) (fun _ H locs h => ?_)
  have h : ST g (LA s) s [(y, .inr (7, [.ref y_refused, .ref y_document, .int 0, .int 0, .ref y_variables, .int 0, .ref y_nodes, .ref y_node, .ref y_master, .ref y_isSet, .ref y_setMany, .ref y_setFrom, .ref y_setUsed, .ref y_setText, .ref y_atStop, .ref y_isFresh, .ref y_then, .ref y_choiceMany, .ref y_choiceFrom, .ref y_choiceLong, .ref y_choiceBytes, .int 0, .ref y_text, .int 0, .int 0, .int 0, .int 0, .ref y_open, .int 0, .ref y_shown, .int 0, .int 0, .ref y_nextNode, .ref y_endNode, .ref y_made, .ref y_beganAt, .ref y_ofNode, .ref y_isOwn, .int 0, .ref y_begin, .ref y_size, .ref y_holding, .int 0, .ref y_kept, .int 0])), (y_refused, .inl (g.2 1, 3, .inl (fun _ => 0)))] H locs := h
  refine lv_aload_n hx hb dL_law_347 rfl (lv_at hl 1 rfl) ?_
  refine lv_aload_n hx hb dL_law_348 rfl (lv_at hl 3 rfl) ?_
  refine lv_iload_n hx hb dL_law_349 rfl (lv_at hl 0 rfl) ?_
  refine lv_iconst (v := 1) hx hb dL_law_350 (by decide) ?_
  refine lv_iadd hx hb dL_law_351 ?_
  refine r_vi (y := 1) (by decide) ?_
  refine r_sld X hX hbl h (v := xs 1) (vp_lit (by decide +kernel)) rfl dL_law_352 ?_
  refine r_vi (y := c) e1 ?_
  refine lv_aload_n hx hb dL_law_353 rfl (lv_at hl 3 rfl) ?_
  refine lv_iload_n hx hb dL_law_354 rfl (lv_at hl 0 rfl) ?_
  refine lv_iconst (v := 2) hx hb dL_law_355 (by decide) ?_
  refine lv_iadd hx hb dL_law_356 ?_
  refine r_vi (y := 2) (by decide) ?_
  refine r_sld X hX hbl h (v := xs 2) (vp_lit (by decide +kernel)) rfl dL_law_357 ?_
  refine r_vi (y := n) e2 ?_
  refine k_i X h [0, 1] [] (wr := []) rfl rfl rfl (by decide) 973 728835 (Nat.le_of_ble_eq_true rfl) (Nat.le_of_ble_eq_true rfl) (k_runV X h (As := [.int c, .int n]) (rest := [.int (-2)]) (c7_cuts_hi l g H.size y y_refused y_document y_variables y_nodes y_node y_master y_isSet y_setMany y_setFrom y_setUsed y_setText y_atStop y_isFresh y_then y_choiceMany y_choiceFrom y_choiceLong y_choiceBytes y_text y_open y_shown y_nextNode y_endNode y_made y_beganAt y_ofNode y_isOwn y_begin y_size y_holding y_kept c n h1 h2) cw_L_63 [0, 1] rfl rfl 0 kl7 rfl rfl rfl (Nat.le_of_ble_eq_true rfl) (Nat.le_of_ble_eq_true rfl) rfl hl.1 rfl (Nat.le_of_ble_eq_true rfl) dL_law_358 (Nat.le_of_ble_eq_true rfl) (Nat.le_of_ble_eq_true rfl)) (fun _ H locs h => ?_)
  have h : ST g (LA s) s [] H locs := h
  refine lv_icmp_eq (tgt := 660) hx hb dL_law_361 (by decide) (fun c_1 => ?_) (fun c_1 => absurd (by decide) c_1)
  exact law_tail X hX hbl h (lv_sub hl [0, 3] rfl) (Nat.le_of_ble_eq_true rfl) (Nat.le_of_ble_eq_true rfl)

set_option maxHeartbeats 4000000 in
set_option maxRecDepth 100000 in
theorem lw_cuts_nlo {nm : String} {g : GE} {pp : Program} {l : Launch} {ee : Env} {s : State} {m : MethodId} {bb : List Frame} {mm : Method} {cd : Code} {bs : Nat} {xs : Nat → Int32} {H : Heap} {locs : List Loc} {ls : Array Slot} (X : CX g pp s m mm cd #[Value.ref bs] cL_law 4 RL nm ret (LA s)) (hX : va_X bs 4 xs s s.heap) (hbl : bs < s.heap.size) {y x tx lk pa nO dO np nv ns nsh nshb y_refused y_document y_variables y_nodes y_node y_master y_isSet y_setMany y_setFrom y_setUsed y_setText y_atStop y_isFresh y_then y_choiceMany y_choiceFrom y_choiceLong y_choiceBytes y_text y_open y_shown y_nextNode y_endNode y_made y_beganAt y_ofNode y_isOwn y_begin y_size y_holding y_kept : Nat} (h : ST g (LA s) s [(x, .inr (6, [.ref tx, .ref lk, .ref pa, .int 0, .ref nO, .ref dO, .int 0, .int 0, .int 0])), (nO, .inr (4, [.ref np, .int 0, .ref nv, .ref ns, .int 0, .ref nsh])), (nsh, .inr (2, [.int 241, .ref nshb, .int 0])), (y, .inr (7, [.ref y_refused, .ref y_document, .int 0, .int 0, .ref y_variables, .int 0, .ref y_nodes, .ref y_node, .ref y_master, .ref y_isSet, .ref y_setMany, .ref y_setFrom, .ref y_setUsed, .ref y_setText, .ref y_atStop, .ref y_isFresh, .ref y_then, .ref y_choiceMany, .ref y_choiceFrom, .ref y_choiceLong, .ref y_choiceBytes, .int 0, .ref y_text, .int 0, .int 0, .int 0, .int 0, .ref y_open, .int 0, .ref y_shown, .int 0, .int 0, .ref y_nextNode, .ref y_endNode, .ref y_made, .ref y_beganAt, .ref y_ofNode, .ref y_isOwn, .int 0, .ref y_begin, .ref y_size, .ref y_holding, .int 0, .ref y_kept, .int 0])), (y_refused, .inl (g.2 1, 3, .inl (fun _ => 0)))] H locs) (hl : lv_has ls 4 [(3, .int 0), (2, .ref y), (1, .ref x), (0, .ref bs)]) {n : Int32} (e1 : xs 1 = 0) (e2 : xs 2 = n) (h1 : n < 1) (h2 : ¬ 1 ≤ n) : W pp l ee room_1 s m #[Value.ref bs] bb mm cd H locs 973 728835 (lw_Z bb #[Value.ref bs] s) (F0 m 333 ls []) := by
  have hx := X.1
  have hb := X.2.1
  refine lv_aload_n hx hb dL_law_333 rfl (lv_at hl 2 rfl) ?_
  refine lv_aload_n hx hb dL_law_334 rfl (lv_at hl 3 rfl) ?_
  refine lv_iload_n hx hb dL_law_335 rfl (lv_at hl 0 rfl) ?_
  refine lv_iconst (v := 1) hx hb dL_law_336 (by decide) ?_
  refine lv_iadd hx hb dL_law_337 ?_
  refine r_vi (y := 1) (by decide) ?_
  refine r_sld X hX hbl h (v := xs 1) (vp_lit (by decide +kernel)) rfl dL_law_338 ?_
  refine r_vi (y := 0) e1 ?_
  refine lv_aload_n hx hb dL_law_339 rfl (lv_at hl 3 rfl) ?_
  refine lv_iload_n hx hb dL_law_340 rfl (lv_at hl 0 rfl) ?_
  refine lv_iconst (v := 2) hx hb dL_law_341 (by decide) ?_
  refine lv_iadd hx hb dL_law_342 ?_
  refine r_vi (y := 2) (by decide) ?_
  refine r_sld X hX hbl h (v := xs 2) (vp_lit (by decide +kernel)) rfl dL_law_343 ?_
  refine r_vi (y := n) e2 ?_
  refine k_i X h [0, 1, 2] [3, 4] (wr := [(y, .inr (7, [.ref y_refused, .ref y_document, .int 0, .int 0, .ref y_variables, .int 0, .ref y_nodes, .ref y_node, .ref y_master, .ref y_isSet, .ref y_setMany, .ref y_setFrom, .ref y_setUsed, .ref y_setText, .ref y_atStop, .ref y_isFresh, .ref y_then, .ref y_choiceMany, .ref y_choiceFrom, .ref y_choiceLong, .ref y_choiceBytes, .int 0, .ref y_text, .int 0, .int 0, .int 0, .int 0, .ref y_open, .int 0, .ref y_shown, .int 0, .int 0, .ref y_nextNode, .ref y_endNode, .ref y_made, .ref y_beganAt, .ref y_ofNode, .ref y_isOwn, .int 0, .ref y_begin, .ref y_size, .ref y_holding, .int 0, .ref y_kept, .int 0])), (y_refused, .inl (g.2 1, 3, .inl (fun _ => 0)))]) rfl rfl rfl (by decide) 973 728835 (Nat.le_of_ble_eq_true rfl) (Nat.le_of_ble_eq_true rfl) (k_runV X h (As := [.int 0, .int n]) (rest := []) (c6_cuts_nlo l g H.size x tx lk pa nO dO np nv ns nsh nshb n h1 h2) cw_L_59 [0, 1, 2] rfl rfl 0 kl6 rfl rfl rfl (Nat.le_of_ble_eq_true rfl) (Nat.le_of_ble_eq_true rfl) rfl hl.1 rfl (Nat.le_of_ble_eq_true rfl) dL_law_344 (Nat.le_of_ble_eq_true rfl) (Nat.le_of_ble_eq_true rfl)) (fun _ H locs h => ?_)
  have h : ST g (LA s) s [(y, .inr (7, [.ref y_refused, .ref y_document, .int 0, .int 0, .ref y_variables, .int 0, .ref y_nodes, .ref y_node, .ref y_master, .ref y_isSet, .ref y_setMany, .ref y_setFrom, .ref y_setUsed, .ref y_setText, .ref y_atStop, .ref y_isFresh, .ref y_then, .ref y_choiceMany, .ref y_choiceFrom, .ref y_choiceLong, .ref y_choiceBytes, .int 0, .ref y_text, .int 0, .int 0, .int 0, .int 0, .ref y_open, .int 0, .ref y_shown, .int 0, .int 0, .ref y_nextNode, .ref y_endNode, .ref y_made, .ref y_beganAt, .ref y_ofNode, .ref y_isOwn, .int 0, .ref y_begin, .ref y_size, .ref y_holding, .int 0, .ref y_kept, .int 0])), (y_refused, .inl (g.2 1, 3, .inl (fun _ => 0)))] H locs := h
  refine lv_aload_n hx hb dL_law_347 rfl (lv_at hl 1 rfl) ?_
  refine lv_aload_n hx hb dL_law_348 rfl (lv_at hl 3 rfl) ?_
  refine lv_iload_n hx hb dL_law_349 rfl (lv_at hl 0 rfl) ?_
  refine lv_iconst (v := 1) hx hb dL_law_350 (by decide) ?_
  refine lv_iadd hx hb dL_law_351 ?_
  refine r_vi (y := 1) (by decide) ?_
  refine r_sld X hX hbl h (v := xs 1) (vp_lit (by decide +kernel)) rfl dL_law_352 ?_
  refine r_vi (y := 0) e1 ?_
  refine lv_aload_n hx hb dL_law_353 rfl (lv_at hl 3 rfl) ?_
  refine lv_iload_n hx hb dL_law_354 rfl (lv_at hl 0 rfl) ?_
  refine lv_iconst (v := 2) hx hb dL_law_355 (by decide) ?_
  refine lv_iadd hx hb dL_law_356 ?_
  refine r_vi (y := 2) (by decide) ?_
  refine r_sld X hX hbl h (v := xs 2) (vp_lit (by decide +kernel)) rfl dL_law_357 ?_
  refine r_vi (y := n) e2 ?_
  refine k_i X h [0, 1] [] (wr := []) rfl rfl rfl (by decide) 973 728835 (Nat.le_of_ble_eq_true rfl) (Nat.le_of_ble_eq_true rfl) (k_runV X h (As := [.int 0, .int n]) (rest := [.int (-2)]) (c7_cuts_nlo l g H.size y y_refused y_document y_variables y_nodes y_node y_master y_isSet y_setMany y_setFrom y_setUsed y_setText y_atStop y_isFresh y_then y_choiceMany y_choiceFrom y_choiceLong y_choiceBytes y_text y_open y_shown y_nextNode y_endNode y_made y_beganAt y_ofNode y_isOwn y_begin y_size y_holding y_kept n h1 h2) cw_L_63 [0, 1] rfl rfl 0 kl7 rfl rfl rfl (Nat.le_of_ble_eq_true rfl) (Nat.le_of_ble_eq_true rfl) rfl hl.1 rfl (Nat.le_of_ble_eq_true rfl) dL_law_358 (Nat.le_of_ble_eq_true rfl) (Nat.le_of_ble_eq_true rfl)) (fun _ H locs h => ?_)
  have h : ST g (LA s) s [] H locs := h
  refine lv_icmp_eq (tgt := 660) hx hb dL_law_361 (by decide) (fun c_1 => ?_) (fun c_1 => absurd (by decide) c_1)
  exact law_tail X hX hbl h (lv_sub hl [0, 3] rfl) (Nat.le_of_ble_eq_true rfl) (Nat.le_of_ble_eq_true rfl)

set_option maxHeartbeats 4000000 in
set_option maxRecDepth 100000 in
theorem lw_cuts_nhi {nm : String} {g : GE} {pp : Program} {l : Launch} {ee : Env} {s : State} {m : MethodId} {bb : List Frame} {mm : Method} {cd : Code} {bs : Nat} {xs : Nat → Int32} {H : Heap} {locs : List Loc} {ls : Array Slot} (X : CX g pp s m mm cd #[Value.ref bs] cL_law 4 RL nm ret (LA s)) (hX : va_X bs 4 xs s s.heap) (hbl : bs < s.heap.size) {y x tx lk pa nO dO np nv ns nsh nshb y_refused y_document y_variables y_nodes y_node y_master y_isSet y_setMany y_setFrom y_setUsed y_setText y_atStop y_isFresh y_then y_choiceMany y_choiceFrom y_choiceLong y_choiceBytes y_text y_open y_shown y_nextNode y_endNode y_made y_beganAt y_ofNode y_isOwn y_begin y_size y_holding y_kept : Nat} (h : ST g (LA s) s [(x, .inr (6, [.ref tx, .ref lk, .ref pa, .int 0, .ref nO, .ref dO, .int 0, .int 0, .int 0])), (nO, .inr (4, [.ref np, .int 0, .ref nv, .ref ns, .int 0, .ref nsh])), (nsh, .inr (2, [.int 241, .ref nshb, .int 0])), (y, .inr (7, [.ref y_refused, .ref y_document, .int 0, .int 0, .ref y_variables, .int 0, .ref y_nodes, .ref y_node, .ref y_master, .ref y_isSet, .ref y_setMany, .ref y_setFrom, .ref y_setUsed, .ref y_setText, .ref y_atStop, .ref y_isFresh, .ref y_then, .ref y_choiceMany, .ref y_choiceFrom, .ref y_choiceLong, .ref y_choiceBytes, .int 0, .ref y_text, .int 0, .int 0, .int 0, .int 0, .ref y_open, .int 0, .ref y_shown, .int 0, .int 0, .ref y_nextNode, .ref y_endNode, .ref y_made, .ref y_beganAt, .ref y_ofNode, .ref y_isOwn, .int 0, .ref y_begin, .ref y_size, .ref y_holding, .int 0, .ref y_kept, .int 0])), (y_refused, .inl (g.2 1, 3, .inl (fun _ => 0)))] H locs) (hl : lv_has ls 4 [(3, .int 0), (2, .ref y), (1, .ref x), (0, .ref bs)]) {n : Int32} (e1 : xs 1 = 0) (e2 : xs 2 = n) (h1 : ¬ n < 1) (h2 : 0 < n) (h3 : 1 ≤ n) : W pp l ee room_1 s m #[Value.ref bs] bb mm cd H locs 973 728835 (lw_Z bb #[Value.ref bs] s) (F0 m 333 ls []) := by
  have hx := X.1
  have hb := X.2.1
  refine lv_aload_n hx hb dL_law_333 rfl (lv_at hl 2 rfl) ?_
  refine lv_aload_n hx hb dL_law_334 rfl (lv_at hl 3 rfl) ?_
  refine lv_iload_n hx hb dL_law_335 rfl (lv_at hl 0 rfl) ?_
  refine lv_iconst (v := 1) hx hb dL_law_336 (by decide) ?_
  refine lv_iadd hx hb dL_law_337 ?_
  refine r_vi (y := 1) (by decide) ?_
  refine r_sld X hX hbl h (v := xs 1) (vp_lit (by decide +kernel)) rfl dL_law_338 ?_
  refine r_vi (y := 0) e1 ?_
  refine lv_aload_n hx hb dL_law_339 rfl (lv_at hl 3 rfl) ?_
  refine lv_iload_n hx hb dL_law_340 rfl (lv_at hl 0 rfl) ?_
  refine lv_iconst (v := 2) hx hb dL_law_341 (by decide) ?_
  refine lv_iadd hx hb dL_law_342 ?_
  refine r_vi (y := 2) (by decide) ?_
  refine r_sld X hX hbl h (v := xs 2) (vp_lit (by decide +kernel)) rfl dL_law_343 ?_
  refine r_vi (y := n) e2 ?_
  refine k_i X h [0, 1, 2] [3, 4] (wr := [(y, .inr (7, [.ref y_refused, .ref y_document, .int 0, .int 0, .ref y_variables, .int 0, .ref y_nodes, .ref y_node, .ref y_master, .ref y_isSet, .ref y_setMany, .ref y_setFrom, .ref y_setUsed, .ref y_setText, .ref y_atStop, .ref y_isFresh, .ref y_then, .ref y_choiceMany, .ref y_choiceFrom, .ref y_choiceLong, .ref y_choiceBytes, .int 0, .ref y_text, .int 0, .int 0, .int 0, .int 0, .ref y_open, .int 0, .ref y_shown, .int 0, .int 0, .ref y_nextNode, .ref y_endNode, .ref y_made, .ref y_beganAt, .ref y_ofNode, .ref y_isOwn, .int 0, .ref y_begin, .ref y_size, .ref y_holding, .int 0, .ref y_kept, .int 0])), (y_refused, .inl (g.2 1, 3, .inl (fun _ => 0)))]) rfl rfl rfl (by decide) 973 728835 (Nat.le_of_ble_eq_true rfl) (Nat.le_of_ble_eq_true rfl) (k_runV X h (As := [.int 0, .int n]) (rest := []) (c6_cuts_nhi l g H.size x tx lk pa nO dO np nv ns nsh nshb n h1 h2 h3) cw_L_59 [0, 1, 2] rfl rfl 0 kl6 rfl rfl rfl (Nat.le_of_ble_eq_true rfl) (Nat.le_of_ble_eq_true rfl) rfl hl.1 rfl (Nat.le_of_ble_eq_true rfl) dL_law_344 (Nat.le_of_ble_eq_true rfl) (Nat.le_of_ble_eq_true rfl)) (fun _ H locs h => ?_)
  have h : ST g (LA s) s [(y, .inr (7, [.ref y_refused, .ref y_document, .int 0, .int 0, .ref y_variables, .int 0, .ref y_nodes, .ref y_node, .ref y_master, .ref y_isSet, .ref y_setMany, .ref y_setFrom, .ref y_setUsed, .ref y_setText, .ref y_atStop, .ref y_isFresh, .ref y_then, .ref y_choiceMany, .ref y_choiceFrom, .ref y_choiceLong, .ref y_choiceBytes, .int 0, .ref y_text, .int 0, .int 0, .int 0, .int 0, .ref y_open, .int 0, .ref y_shown, .int 0, .int 0, .ref y_nextNode, .ref y_endNode, .ref y_made, .ref y_beganAt, .ref y_ofNode, .ref y_isOwn, .int 0, .ref y_begin, .ref y_size, .ref y_holding, .int 0, .ref y_kept, .int 0])), (y_refused, .inl (g.2 1, 3, .inl (fun _ => 0)))] H locs := h
  refine lv_aload_n hx hb dL_law_347 rfl (lv_at hl 1 rfl) ?_
  refine lv_aload_n hx hb dL_law_348 rfl (lv_at hl 3 rfl) ?_
  refine lv_iload_n hx hb dL_law_349 rfl (lv_at hl 0 rfl) ?_
  refine lv_iconst (v := 1) hx hb dL_law_350 (by decide) ?_
  refine lv_iadd hx hb dL_law_351 ?_
  refine r_vi (y := 1) (by decide) ?_
  refine r_sld X hX hbl h (v := xs 1) (vp_lit (by decide +kernel)) rfl dL_law_352 ?_
  refine r_vi (y := 0) e1 ?_
  refine lv_aload_n hx hb dL_law_353 rfl (lv_at hl 3 rfl) ?_
  refine lv_iload_n hx hb dL_law_354 rfl (lv_at hl 0 rfl) ?_
  refine lv_iconst (v := 2) hx hb dL_law_355 (by decide) ?_
  refine lv_iadd hx hb dL_law_356 ?_
  refine r_vi (y := 2) (by decide) ?_
  refine r_sld X hX hbl h (v := xs 2) (vp_lit (by decide +kernel)) rfl dL_law_357 ?_
  refine r_vi (y := n) e2 ?_
  refine k_i X h [0, 1] [] (wr := []) rfl rfl rfl (by decide) 973 728835 (Nat.le_of_ble_eq_true rfl) (Nat.le_of_ble_eq_true rfl) (k_runV X h (As := [.int 0, .int n]) (rest := [.int (-2)]) (c7_cuts_nhi l g H.size y y_refused y_document y_variables y_nodes y_node y_master y_isSet y_setMany y_setFrom y_setUsed y_setText y_atStop y_isFresh y_then y_choiceMany y_choiceFrom y_choiceLong y_choiceBytes y_text y_open y_shown y_nextNode y_endNode y_made y_beganAt y_ofNode y_isOwn y_begin y_size y_holding y_kept n h1 h2 h3) cw_L_63 [0, 1] rfl rfl 0 kl7 rfl rfl rfl (Nat.le_of_ble_eq_true rfl) (Nat.le_of_ble_eq_true rfl) rfl hl.1 rfl (Nat.le_of_ble_eq_true rfl) dL_law_358 (Nat.le_of_ble_eq_true rfl) (Nat.le_of_ble_eq_true rfl)) (fun _ H locs h => ?_)
  have h : ST g (LA s) s [] H locs := h
  refine lv_icmp_eq (tgt := 660) hx hb dL_law_361 (by decide) (fun c_1 => ?_) (fun c_1 => absurd (by decide) c_1)
  exact law_tail X hX hbl h (lv_sub hl [0, 3] rfl) (Nat.le_of_ble_eq_true rfl) (Nat.le_of_ble_eq_true rfl)

set_option maxHeartbeats 4000000 in
set_option maxRecDepth 100000 in
theorem lw_at_lo {nm : String} {g : GE} {pp : Program} {l : Launch} {ee : Env} {s : State} {m : MethodId} {bb : List Frame} {mm : Method} {cd : Code} {bs : Nat} {xs : Nat → Int32} {H : Heap} {locs : List Loc} {ls : Array Slot} (X : CX g pp s m mm cd #[Value.ref bs] cL_law 4 RL nm ret (LA s)) (hX : va_X bs 4 xs s s.heap) (hbl : bs < s.heap.size) {y x tx lk pa nO dO y_refused y_document y_variables y_nodes y_node y_master y_isSet y_setMany y_setFrom y_setUsed y_setText y_atStop y_isFresh y_then y_choiceMany y_choiceFrom y_choiceLong y_choiceBytes y_text y_open y_shown y_nextNode y_endNode y_made y_beganAt y_ofNode y_isOwn y_begin y_size y_holding y_kept : Nat} (h : ST g (LA s) s [(x, .inr (6, [.ref tx, .ref lk, .ref pa, .int 0, .ref nO, .ref dO, .int 0, .int 0, .int 0])), (y, .inr (7, [.ref y_refused, .ref y_document, .int 0, .int 0, .ref y_variables, .int 0, .ref y_nodes, .ref y_node, .ref y_master, .ref y_isSet, .ref y_setMany, .ref y_setFrom, .ref y_setUsed, .ref y_setText, .ref y_atStop, .ref y_isFresh, .ref y_then, .ref y_choiceMany, .ref y_choiceFrom, .ref y_choiceLong, .ref y_choiceBytes, .int 0, .ref y_text, .int 0, .int 0, .int 0, .int 0, .ref y_open, .int 0, .ref y_shown, .int 0, .int 0, .ref y_nextNode, .ref y_endNode, .ref y_made, .ref y_beganAt, .ref y_ofNode, .ref y_isOwn, .int 0, .ref y_begin, .ref y_size, .ref y_holding, .int 0, .ref y_kept, .int 0])), (y_refused, .inl (g.2 1, 3, .inl (fun _ => 0)))] H locs) (hl : lv_has ls 4 [(3, .int 0), (2, .ref y), (1, .ref x), (0, .ref bs)]) {c : Int32} (e1 : xs 1 = c) (h1 : c < 0) : W pp l ee room_1 s m #[Value.ref bs] bb mm cd H locs 973 728835 (lw_Z bb #[Value.ref bs] s) (F0 m 366 ls []) := by
  have hx := X.1
  have hb := X.2.1
  refine lv_aload_n hx hb dL_law_366 rfl (lv_at hl 2 rfl) ?_
  refine lv_aload_n hx hb dL_law_367 rfl (lv_at hl 3 rfl) ?_
  refine lv_iload_n hx hb dL_law_368 rfl (lv_at hl 0 rfl) ?_
  refine lv_iconst (v := 1) hx hb dL_law_369 (by decide) ?_
  refine lv_iadd hx hb dL_law_370 ?_
  refine r_vi (y := 1) (by decide) ?_
  refine r_sld X hX hbl h (v := xs 1) (vp_lit (by decide +kernel)) rfl dL_law_371 ?_
  refine r_vi (y := c) e1 ?_
  refine k_i X h [0] [1, 2] (wr := [(y, .inr (7, [.ref y_refused, .ref y_document, .int 0, .int 0, .ref y_variables, .int 0, .ref y_nodes, .ref y_node, .ref y_master, .ref y_isSet, .ref y_setMany, .ref y_setFrom, .ref y_setUsed, .ref y_setText, .ref y_atStop, .ref y_isFresh, .ref y_then, .ref y_choiceMany, .ref y_choiceFrom, .ref y_choiceLong, .ref y_choiceBytes, .int 0, .ref y_text, .int 0, .int 0, .int 0, .int 0, .ref y_open, .int 0, .ref y_shown, .int 0, .int 0, .ref y_nextNode, .ref y_endNode, .ref y_made, .ref y_beganAt, .ref y_ofNode, .ref y_isOwn, .int 0, .ref y_begin, .ref y_size, .ref y_holding, .int 0, .ref y_kept, .int 0])), (y_refused, .inl (g.2 1, 3, .inl (fun _ => 0)))]) rfl rfl rfl (by decide) 973 728835 (Nat.le_of_ble_eq_true rfl) (Nat.le_of_ble_eq_true rfl) (k_runV X h (As := [.int c]) (rest := []) (c6_at_lo l g H.size x tx lk pa nO dO c h1) cw_L_64 [0] rfl rfl 0 kl6 rfl rfl rfl (Nat.le_of_ble_eq_true rfl) (Nat.le_of_ble_eq_true rfl) rfl hl.1 rfl (Nat.le_of_ble_eq_true rfl) dL_law_372 (Nat.le_of_ble_eq_true rfl) (Nat.le_of_ble_eq_true rfl)) (fun _ H locs h => ?_)
  have h : ST g (LA s) s [(y, .inr (7, [.ref y_refused, .ref y_document, .int 0, .int 0, .ref y_variables, .int 0, .ref y_nodes, .ref y_node, .ref y_master, .ref y_isSet, .ref y_setMany, .ref y_setFrom, .ref y_setUsed, .ref y_setText, .ref y_atStop, .ref y_isFresh, .ref y_then, .ref y_choiceMany, .ref y_choiceFrom, .ref y_choiceLong, .ref y_choiceBytes, .int 0, .ref y_text, .int 0, .int 0, .int 0, .int 0, .ref y_open, .int 0, .ref y_shown, .int 0, .int 0, .ref y_nextNode, .ref y_endNode, .ref y_made, .ref y_beganAt, .ref y_ofNode, .ref y_isOwn, .int 0, .ref y_begin, .ref y_size, .ref y_holding, .int 0, .ref y_kept, .int 0])), (y_refused, .inl (g.2 1, 3, .inl (fun _ => 0)))] H locs := h
  refine lv_aload_n hx hb dL_law_375 rfl (lv_at hl 1 rfl) ?_
  refine lv_aload_n hx hb dL_law_376 rfl (lv_at hl 3 rfl) ?_
  refine lv_iload_n hx hb dL_law_377 rfl (lv_at hl 0 rfl) ?_
  refine lv_iconst (v := 1) hx hb dL_law_378 (by decide) ?_
  refine lv_iadd hx hb dL_law_379 ?_
  refine r_vi (y := 1) (by decide) ?_
  refine r_sld X hX hbl h (v := xs 1) (vp_lit (by decide +kernel)) rfl dL_law_380 ?_
  refine r_vi (y := c) e1 ?_
  refine k_i X h [0, 1] [] (wr := []) rfl rfl rfl (by decide) 973 728835 (Nat.le_of_ble_eq_true rfl) (Nat.le_of_ble_eq_true rfl) (k_runV X h (As := [.int c]) (rest := [.int (-2)]) (c7_at_lo l g H.size y y_refused y_document y_variables y_nodes y_node y_master y_isSet y_setMany y_setFrom y_setUsed y_setText y_atStop y_isFresh y_then y_choiceMany y_choiceFrom y_choiceLong y_choiceBytes y_text y_open y_shown y_nextNode y_endNode y_made y_beganAt y_ofNode y_isOwn y_begin y_size y_holding y_kept c h1) cw_L_67 [0, 1] rfl rfl 0 kl7 rfl rfl rfl (Nat.le_of_ble_eq_true rfl) (Nat.le_of_ble_eq_true rfl) rfl hl.1 rfl (Nat.le_of_ble_eq_true rfl) dL_law_381 (Nat.le_of_ble_eq_true rfl) (Nat.le_of_ble_eq_true rfl)) (fun _ H locs h => ?_)
  have h : ST g (LA s) s [] H locs := h
  refine lv_icmp_eq (tgt := 660) hx hb dL_law_384 (by decide) (fun c_1 => ?_) (fun c_1 => absurd (by decide) c_1)
  exact law_tail X hX hbl h (lv_sub hl [0, 3] rfl) (Nat.le_of_ble_eq_true rfl) (Nat.le_of_ble_eq_true rfl)

set_option maxHeartbeats 4000000 in
set_option maxRecDepth 100000 in
theorem lw_at_ok {nm : String} {g : GE} {pp : Program} {l : Launch} {ee : Env} {s : State} {m : MethodId} {bb : List Frame} {mm : Method} {cd : Code} {bs : Nat} {xs : Nat → Int32} {H : Heap} {locs : List Loc} {ls : Array Slot} (X : CX g pp s m mm cd #[Value.ref bs] cL_law 4 RL nm ret (LA s)) (hX : va_X bs 4 xs s s.heap) (hbl : bs < s.heap.size) {y x tx lk pa nO dO np nv ns nsh nshb y_refused y_document y_variables y_nodes y_node y_master y_isSet y_setMany y_setFrom y_setUsed y_setText y_atStop y_isFresh y_then y_choiceMany y_choiceFrom y_choiceLong y_choiceBytes y_text y_open y_shown y_nextNode y_endNode y_made y_beganAt y_ofNode y_isOwn y_begin y_size y_holding y_kept : Nat} (h : ST g (LA s) s [(x, .inr (6, [.ref tx, .ref lk, .ref pa, .int 0, .ref nO, .ref dO, .int 0, .int 0, .int 0])), (nO, .inr (4, [.ref np, .int 0, .ref nv, .ref ns, .int 0, .ref nsh])), (nsh, .inr (2, [.int 241, .ref nshb, .int 0])), (y, .inr (7, [.ref y_refused, .ref y_document, .int 0, .int 0, .ref y_variables, .int 0, .ref y_nodes, .ref y_node, .ref y_master, .ref y_isSet, .ref y_setMany, .ref y_setFrom, .ref y_setUsed, .ref y_setText, .ref y_atStop, .ref y_isFresh, .ref y_then, .ref y_choiceMany, .ref y_choiceFrom, .ref y_choiceLong, .ref y_choiceBytes, .int 0, .ref y_text, .int 0, .int 0, .int 0, .int 0, .ref y_open, .int 0, .ref y_shown, .int 0, .int 0, .ref y_nextNode, .ref y_endNode, .ref y_made, .ref y_beganAt, .ref y_ofNode, .ref y_isOwn, .int 0, .ref y_begin, .ref y_size, .ref y_holding, .int 0, .ref y_kept, .int 0]))] H locs) (hl : lv_has ls 4 [(3, .int 0), (2, .ref y), (1, .ref x), (0, .ref bs)]) {c : Int32} (e1 : xs 1 = c) (h1 : ¬ c < 0) (h2 : 0 ≤ c) : W pp l ee room_1 s m #[Value.ref bs] bb mm cd H locs 973 728835 (lw_Z bb #[Value.ref bs] s) (F0 m 366 ls []) := by
  have hx := X.1
  have hb := X.2.1
  refine lv_aload_n hx hb dL_law_366 rfl (lv_at hl 2 rfl) ?_
  refine lv_aload_n hx hb dL_law_367 rfl (lv_at hl 3 rfl) ?_
  refine lv_iload_n hx hb dL_law_368 rfl (lv_at hl 0 rfl) ?_
  refine lv_iconst (v := 1) hx hb dL_law_369 (by decide) ?_
  refine lv_iadd hx hb dL_law_370 ?_
  refine r_vi (y := 1) (by decide) ?_
  refine r_sld X hX hbl h (v := xs 1) (vp_lit (by decide +kernel)) rfl dL_law_371 ?_
  refine r_vi (y := c) e1 ?_
  refine k_i X h [0, 1, 2] [3] (wr := [(y, .inr (7, [.ref y_refused, .ref y_document, .int 0, .int 0, .ref y_variables, .int 0, .ref y_nodes, .ref y_node, .ref y_master, .ref y_isSet, .ref y_setMany, .ref y_setFrom, .ref y_setUsed, .ref y_setText, .ref y_atStop, .ref y_isFresh, .ref y_then, .ref y_choiceMany, .ref y_choiceFrom, .ref y_choiceLong, .ref y_choiceBytes, .int 0, .ref y_text, .int 0, .int 0, .int 0, .int 0, .ref y_open, .int 0, .ref y_shown, .int 0, .int 0, .ref y_nextNode, .ref y_endNode, .ref y_made, .ref y_beganAt, .ref y_ofNode, .ref y_isOwn, .int 0, .ref y_begin, .ref y_size, .ref y_holding, .int 0, .ref y_kept, .int 0]))]) rfl rfl rfl (by decide) 973 728835 (Nat.le_of_ble_eq_true rfl) (Nat.le_of_ble_eq_true rfl) (k_runV X h (As := [.int c]) (rest := []) (c6_at_ok l g H.size x tx lk pa nO dO np nv ns nsh nshb c h1 h2) cw_L_64 [0, 1, 2] rfl rfl 0 kl6 rfl rfl rfl (Nat.le_of_ble_eq_true rfl) (Nat.le_of_ble_eq_true rfl) rfl hl.1 rfl (Nat.le_of_ble_eq_true rfl) dL_law_372 (Nat.le_of_ble_eq_true rfl) (Nat.le_of_ble_eq_true rfl)) (fun _ H locs h => ?_)
  have h : ST g (LA s) s [(y, .inr (7, [.ref y_refused, .ref y_document, .int 0, .int 0, .ref y_variables, .int 0, .ref y_nodes, .ref y_node, .ref y_master, .ref y_isSet, .ref y_setMany, .ref y_setFrom, .ref y_setUsed, .ref y_setText, .ref y_atStop, .ref y_isFresh, .ref y_then, .ref y_choiceMany, .ref y_choiceFrom, .ref y_choiceLong, .ref y_choiceBytes, .int 0, .ref y_text, .int 0, .int 0, .int 0, .int 0, .ref y_open, .int 0, .ref y_shown, .int 0, .int 0, .ref y_nextNode, .ref y_endNode, .ref y_made, .ref y_beganAt, .ref y_ofNode, .ref y_isOwn, .int 0, .ref y_begin, .ref y_size, .ref y_holding, .int 0, .ref y_kept, .int 0]))] H locs := h
  refine lv_aload_n hx hb dL_law_375 rfl (lv_at hl 1 rfl) ?_
  refine lv_aload_n hx hb dL_law_376 rfl (lv_at hl 3 rfl) ?_
  refine lv_iload_n hx hb dL_law_377 rfl (lv_at hl 0 rfl) ?_
  refine lv_iconst (v := 1) hx hb dL_law_378 (by decide) ?_
  refine lv_iadd hx hb dL_law_379 ?_
  refine r_vi (y := 1) (by decide) ?_
  refine r_sld X hX hbl h (v := xs 1) (vp_lit (by decide +kernel)) rfl dL_law_380 ?_
  refine r_vi (y := c) e1 ?_
  refine k_i X h [0] [] (wr := []) rfl rfl rfl (by decide) 973 728835 (Nat.le_of_ble_eq_true rfl) (Nat.le_of_ble_eq_true rfl) (k_runV X h (As := [.int c]) (rest := [.int (-1)]) (c7_at_ok l g H.size y y_refused y_document y_variables y_nodes y_node y_master y_isSet y_setMany y_setFrom y_setUsed y_setText y_atStop y_isFresh y_then y_choiceMany y_choiceFrom y_choiceLong y_choiceBytes y_text y_open y_shown y_nextNode y_endNode y_made y_beganAt y_ofNode y_isOwn y_begin y_size y_holding y_kept c h1 h2) cw_L_67 [0] rfl rfl 0 kl7 rfl rfl rfl (Nat.le_of_ble_eq_true rfl) (Nat.le_of_ble_eq_true rfl) rfl hl.1 rfl (Nat.le_of_ble_eq_true rfl) dL_law_381 (Nat.le_of_ble_eq_true rfl) (Nat.le_of_ble_eq_true rfl)) (fun _ H locs h => ?_)
  have h : ST g (LA s) s [] H locs := h
  refine lv_icmp_eq (tgt := 660) hx hb dL_law_384 (by decide) (fun c_1 => ?_) (fun c_1 => absurd (by decide) c_1)
  exact law_tail X hX hbl h (lv_sub hl [0, 3] rfl) (Nat.le_of_ble_eq_true rfl) (Nat.le_of_ble_eq_true rfl)

set_option maxHeartbeats 4000000 in
set_option maxRecDepth 100000 in
theorem lw_count_w0 {nm : String} {g : GE} {pp : Program} {l : Launch} {ee : Env} {s : State} {m : MethodId} {bb : List Frame} {mm : Method} {cd : Code} {bs : Nat} {xs : Nat → Int32} {H : Heap} {locs : List Loc} {ls : Array Slot} (X : CX g pp s m mm cd #[Value.ref bs] cL_law 4 RL nm ret (LA s)) (hX : va_X bs 4 xs s s.heap) (hbl : bs < s.heap.size) {y x tx lk pa nO dO np nv ns nsh nshb y_refused y_document y_variables y_nodes y_node y_master y_isSet y_setMany y_setFrom y_setUsed y_setText y_atStop y_isFresh y_then y_choiceMany y_choiceFrom y_choiceLong y_choiceBytes y_text y_open y_shown y_nextNode y_endNode y_made y_beganAt y_ofNode y_isOwn y_begin y_size y_holding y_kept : Nat} (h : ST g (LA s) s [(x, .inr (6, [.ref tx, .ref lk, .ref pa, .int 0, .ref nO, .ref dO, .int 0, .int 0, .int 0])), (nO, .inr (4, [.ref np, .int 0, .ref nv, .ref ns, .int 0, .ref nsh])), (nsh, .inr (2, [.int 241, .ref nshb, .int 0])), (y, .inr (7, [.ref y_refused, .ref y_document, .int 0, .int 0, .ref y_variables, .int 0, .ref y_nodes, .ref y_node, .ref y_master, .ref y_isSet, .ref y_setMany, .ref y_setFrom, .ref y_setUsed, .ref y_setText, .ref y_atStop, .ref y_isFresh, .ref y_then, .ref y_choiceMany, .ref y_choiceFrom, .ref y_choiceLong, .ref y_choiceBytes, .int 0, .ref y_text, .int 0, .int 0, .int 0, .int 0, .ref y_open, .int 0, .ref y_shown, .int 0, .int 0, .ref y_nextNode, .ref y_endNode, .ref y_made, .ref y_beganAt, .ref y_ofNode, .ref y_isOwn, .int 0, .ref y_begin, .ref y_size, .ref y_holding, .int 0, .ref y_kept, .int 0]))] H locs) (hl : lv_has ls 4 [(3, .int 0), (2, .ref y), (1, .ref x), (0, .ref bs)]) (e1 : xs 1 = 0) : W pp l ee room_1 s m #[Value.ref bs] bb mm cd H locs 973 728835 (lw_Z bb #[Value.ref bs] s) (F0 m 389 ls []) := by
  have hx := X.1
  have hb := X.2.1
  refine lv_aload_n hx hb dL_law_389 rfl (lv_at hl 2 rfl) ?_
  refine lv_aload_n hx hb dL_law_390 rfl (lv_at hl 3 rfl) ?_
  refine lv_iload_n hx hb dL_law_391 rfl (lv_at hl 0 rfl) ?_
  refine lv_iconst (v := 1) hx hb dL_law_392 (by decide) ?_
  refine lv_iadd hx hb dL_law_393 ?_
  refine r_vi (y := 1) (by decide) ?_
  refine r_sld X hX hbl h (v := xs 1) (vp_lit (by decide +kernel)) rfl dL_law_394 ?_
  refine r_vi (y := 0) e1 ?_
  refine k_i X h [0, 1, 2] [3] (wr := [(y, .inr (7, [.ref y_refused, .ref y_document, .int 0, .int 0, .ref y_variables, .int 0, .ref y_nodes, .ref y_node, .ref y_master, .ref y_isSet, .ref y_setMany, .ref y_setFrom, .ref y_setUsed, .ref y_setText, .ref y_atStop, .ref y_isFresh, .ref y_then, .ref y_choiceMany, .ref y_choiceFrom, .ref y_choiceLong, .ref y_choiceBytes, .int 0, .ref y_text, .int 0, .int 0, .int 0, .int 0, .ref y_open, .int 0, .ref y_shown, .int 0, .int 0, .ref y_nextNode, .ref y_endNode, .ref y_made, .ref y_beganAt, .ref y_ofNode, .ref y_isOwn, .int 0, .ref y_begin, .ref y_size, .ref y_holding, .int 0, .ref y_kept, .int 0]))]) rfl rfl rfl (by decide) 973 728835 (Nat.le_of_ble_eq_true rfl) (Nat.le_of_ble_eq_true rfl) (k_runV X h (As := [.int 0]) (rest := []) (c6_count_w0 l g H.size x tx lk pa nO dO np nv ns nsh nshb) cw_L_68 [0, 1, 2] rfl rfl 0 kl6 rfl rfl rfl (Nat.le_of_ble_eq_true rfl) (Nat.le_of_ble_eq_true rfl) rfl hl.1 rfl (Nat.le_of_ble_eq_true rfl) dL_law_395 (Nat.le_of_ble_eq_true rfl) (Nat.le_of_ble_eq_true rfl)) (fun _ H locs h => ?_)
  have h : ST g (LA s) s [(y, .inr (7, [.ref y_refused, .ref y_document, .int 0, .int 0, .ref y_variables, .int 0, .ref y_nodes, .ref y_node, .ref y_master, .ref y_isSet, .ref y_setMany, .ref y_setFrom, .ref y_setUsed, .ref y_setText, .ref y_atStop, .ref y_isFresh, .ref y_then, .ref y_choiceMany, .ref y_choiceFrom, .ref y_choiceLong, .ref y_choiceBytes, .int 0, .ref y_text, .int 0, .int 0, .int 0, .int 0, .ref y_open, .int 0, .ref y_shown, .int 0, .int 0, .ref y_nextNode, .ref y_endNode, .ref y_made, .ref y_beganAt, .ref y_ofNode, .ref y_isOwn, .int 0, .ref y_begin, .ref y_size, .ref y_holding, .int 0, .ref y_kept, .int 0])), (x, .inr (6, [.ref tx, .ref lk, .ref pa, .int 0, .ref nO, .ref dO, .int 0, .int 0, .int 0])), (nO, .inr (4, [.ref np, .int 0, .ref nv, .ref ns, .int 0, .ref nsh])), (nsh, .inr (2, [.int 241, .ref nshb, .int 0]))] H locs := h
  refine lv_aload_n hx hb dL_law_398 rfl (lv_at hl 1 rfl) ?_
  refine lv_aload_n hx hb dL_law_399 rfl (lv_at hl 3 rfl) ?_
  refine lv_iload_n hx hb dL_law_400 rfl (lv_at hl 0 rfl) ?_
  refine lv_iconst (v := 1) hx hb dL_law_401 (by decide) ?_
  refine lv_iadd hx hb dL_law_402 ?_
  refine r_vi (y := 1) (by decide) ?_
  refine r_sld X hX hbl h (v := xs 1) (vp_lit (by decide +kernel)) rfl dL_law_403 ?_
  refine r_vi (y := 0) e1 ?_
  refine k_i X h [0] [1, 2, 3] (wr := [(x, .inr (6, [.ref tx, .ref lk, .ref pa, .int 0, .ref nO, .ref dO, .int 0, .int 0, .int 0])), (nO, .inr (4, [.ref np, .int 0, .ref nv, .ref ns, .int 0, .ref nsh])), (nsh, .inr (2, [.int 241, .ref nshb, .int 0]))]) rfl rfl rfl (by decide) 973 728835 (Nat.le_of_ble_eq_true rfl) (Nat.le_of_ble_eq_true rfl) (k_runV X h (As := [.int 0]) (rest := [.int 0]) (c7_count_w0 l g H.size y y_refused y_document y_variables y_nodes y_node y_master y_isSet y_setMany y_setFrom y_setUsed y_setText y_atStop y_isFresh y_then y_choiceMany y_choiceFrom y_choiceLong y_choiceBytes y_text y_open y_shown y_nextNode y_endNode y_made y_beganAt y_ofNode y_isOwn y_begin y_size y_holding y_kept) cw_L_71 [0] rfl rfl 0 kl7 rfl rfl rfl (Nat.le_of_ble_eq_true rfl) (Nat.le_of_ble_eq_true rfl) rfl hl.1 rfl (Nat.le_of_ble_eq_true rfl) dL_law_404 (Nat.le_of_ble_eq_true rfl) (Nat.le_of_ble_eq_true rfl)) (fun _ H locs h => ?_)
  have h : ST g (LA s) s [(x, .inr (6, [.ref tx, .ref lk, .ref pa, .int 0, .ref nO, .ref dO, .int 0, .int 0, .int 0])), (nO, .inr (4, [.ref np, .int 0, .ref nv, .ref ns, .int 0, .ref nsh])), (nsh, .inr (2, [.int 241, .ref nshb, .int 0]))] H locs := h
  refine lv_icmp_eq (tgt := 660) hx hb dL_law_407 (by decide) (fun c_1 => ?_) (fun c_1 => absurd (by decide) c_1)
  exact law_tail X hX hbl h (lv_sub hl [0, 3] rfl) (Nat.le_of_ble_eq_true rfl) (Nat.le_of_ble_eq_true rfl)

set_option maxHeartbeats 4000000 in
set_option maxRecDepth 100000 in
theorem lw_count_w1 {nm : String} {g : GE} {pp : Program} {l : Launch} {ee : Env} {s : State} {m : MethodId} {bb : List Frame} {mm : Method} {cd : Code} {bs : Nat} {xs : Nat → Int32} {H : Heap} {locs : List Loc} {ls : Array Slot} (X : CX g pp s m mm cd #[Value.ref bs] cL_law 4 RL nm ret (LA s)) (hX : va_X bs 4 xs s s.heap) (hbl : bs < s.heap.size) {y x tx lk pa nO dO np nv ns nsh y_refused y_document y_variables y_nodes y_node y_master y_isSet y_setMany y_setFrom y_setUsed y_setText y_atStop y_isFresh y_then y_choiceMany y_choiceFrom y_choiceLong y_choiceBytes y_text y_open y_shown y_nextNode y_endNode y_made y_beganAt y_ofNode y_isOwn y_begin y_size y_holding y_kept : Nat} (h : ST g (LA s) s [(x, .inr (6, [.ref tx, .ref lk, .ref pa, .int 0, .ref nO, .ref dO, .int 0, .int 0, .int 0])), (nO, .inr (4, [.ref np, .int 0, .ref nv, .ref ns, .int 0, .ref nsh])), (y, .inr (7, [.ref y_refused, .ref y_document, .int 0, .int 0, .ref y_variables, .int 0, .ref y_nodes, .ref y_node, .ref y_master, .ref y_isSet, .ref y_setMany, .ref y_setFrom, .ref y_setUsed, .ref y_setText, .ref y_atStop, .ref y_isFresh, .ref y_then, .ref y_choiceMany, .ref y_choiceFrom, .ref y_choiceLong, .ref y_choiceBytes, .int 0, .ref y_text, .int 0, .int 0, .int 0, .int 0, .ref y_open, .int 0, .ref y_shown, .int 0, .int 0, .ref y_nextNode, .ref y_endNode, .ref y_made, .ref y_beganAt, .ref y_ofNode, .ref y_isOwn, .int 0, .ref y_begin, .ref y_size, .ref y_holding, .int 0, .ref y_kept, .int 0]))] H locs) (hl : lv_has ls 4 [(3, .int 0), (2, .ref y), (1, .ref x), (0, .ref bs)]) (e1 : xs 1 = 1) : W pp l ee room_1 s m #[Value.ref bs] bb mm cd H locs 973 728835 (lw_Z bb #[Value.ref bs] s) (F0 m 389 ls []) := by
  have hx := X.1
  have hb := X.2.1
  refine lv_aload_n hx hb dL_law_389 rfl (lv_at hl 2 rfl) ?_
  refine lv_aload_n hx hb dL_law_390 rfl (lv_at hl 3 rfl) ?_
  refine lv_iload_n hx hb dL_law_391 rfl (lv_at hl 0 rfl) ?_
  refine lv_iconst (v := 1) hx hb dL_law_392 (by decide) ?_
  refine lv_iadd hx hb dL_law_393 ?_
  refine r_vi (y := 1) (by decide) ?_
  refine r_sld X hX hbl h (v := xs 1) (vp_lit (by decide +kernel)) rfl dL_law_394 ?_
  refine r_vi (y := 1) e1 ?_
  refine k_i X h [0, 1] [2] (wr := [(y, .inr (7, [.ref y_refused, .ref y_document, .int 0, .int 0, .ref y_variables, .int 0, .ref y_nodes, .ref y_node, .ref y_master, .ref y_isSet, .ref y_setMany, .ref y_setFrom, .ref y_setUsed, .ref y_setText, .ref y_atStop, .ref y_isFresh, .ref y_then, .ref y_choiceMany, .ref y_choiceFrom, .ref y_choiceLong, .ref y_choiceBytes, .int 0, .ref y_text, .int 0, .int 0, .int 0, .int 0, .ref y_open, .int 0, .ref y_shown, .int 0, .int 0, .ref y_nextNode, .ref y_endNode, .ref y_made, .ref y_beganAt, .ref y_ofNode, .ref y_isOwn, .int 0, .ref y_begin, .ref y_size, .ref y_holding, .int 0, .ref y_kept, .int 0]))]) rfl rfl rfl (by decide) 973 728835 (Nat.le_of_ble_eq_true rfl) (Nat.le_of_ble_eq_true rfl) (k_runV X h (As := [.int 1]) (rest := []) (c6_count_w1 l g H.size x tx lk pa nO dO np nv ns nsh) cw_L_68 [0, 1] rfl rfl 0 kl6 rfl rfl rfl (Nat.le_of_ble_eq_true rfl) (Nat.le_of_ble_eq_true rfl) rfl hl.1 rfl (Nat.le_of_ble_eq_true rfl) dL_law_395 (Nat.le_of_ble_eq_true rfl) (Nat.le_of_ble_eq_true rfl)) (fun _ H locs h => ?_)
  have h : ST g (LA s) s [(y, .inr (7, [.ref y_refused, .ref y_document, .int 0, .int 0, .ref y_variables, .int 0, .ref y_nodes, .ref y_node, .ref y_master, .ref y_isSet, .ref y_setMany, .ref y_setFrom, .ref y_setUsed, .ref y_setText, .ref y_atStop, .ref y_isFresh, .ref y_then, .ref y_choiceMany, .ref y_choiceFrom, .ref y_choiceLong, .ref y_choiceBytes, .int 0, .ref y_text, .int 0, .int 0, .int 0, .int 0, .ref y_open, .int 0, .ref y_shown, .int 0, .int 0, .ref y_nextNode, .ref y_endNode, .ref y_made, .ref y_beganAt, .ref y_ofNode, .ref y_isOwn, .int 0, .ref y_begin, .ref y_size, .ref y_holding, .int 0, .ref y_kept, .int 0])), (x, .inr (6, [.ref tx, .ref lk, .ref pa, .int 0, .ref nO, .ref dO, .int 0, .int 0, .int 0])), (nO, .inr (4, [.ref np, .int 0, .ref nv, .ref ns, .int 0, .ref nsh]))] H locs := h
  refine lv_aload_n hx hb dL_law_398 rfl (lv_at hl 1 rfl) ?_
  refine lv_aload_n hx hb dL_law_399 rfl (lv_at hl 3 rfl) ?_
  refine lv_iload_n hx hb dL_law_400 rfl (lv_at hl 0 rfl) ?_
  refine lv_iconst (v := 1) hx hb dL_law_401 (by decide) ?_
  refine lv_iadd hx hb dL_law_402 ?_
  refine r_vi (y := 1) (by decide) ?_
  refine r_sld X hX hbl h (v := xs 1) (vp_lit (by decide +kernel)) rfl dL_law_403 ?_
  refine r_vi (y := 1) e1 ?_
  refine k_i X h [0] [1, 2] (wr := [(x, .inr (6, [.ref tx, .ref lk, .ref pa, .int 0, .ref nO, .ref dO, .int 0, .int 0, .int 0])), (nO, .inr (4, [.ref np, .int 0, .ref nv, .ref ns, .int 0, .ref nsh]))]) rfl rfl rfl (by decide) 973 728835 (Nat.le_of_ble_eq_true rfl) (Nat.le_of_ble_eq_true rfl) (k_runV X h (As := [.int 1]) (rest := [.int 0]) (c7_count_w1 l g H.size y y_refused y_document y_variables y_nodes y_node y_master y_isSet y_setMany y_setFrom y_setUsed y_setText y_atStop y_isFresh y_then y_choiceMany y_choiceFrom y_choiceLong y_choiceBytes y_text y_open y_shown y_nextNode y_endNode y_made y_beganAt y_ofNode y_isOwn y_begin y_size y_holding y_kept) cw_L_71 [0] rfl rfl 0 kl7 rfl rfl rfl (Nat.le_of_ble_eq_true rfl) (Nat.le_of_ble_eq_true rfl) rfl hl.1 rfl (Nat.le_of_ble_eq_true rfl) dL_law_404 (Nat.le_of_ble_eq_true rfl) (Nat.le_of_ble_eq_true rfl)) (fun _ H locs h => ?_)
  have h : ST g (LA s) s [(x, .inr (6, [.ref tx, .ref lk, .ref pa, .int 0, .ref nO, .ref dO, .int 0, .int 0, .int 0])), (nO, .inr (4, [.ref np, .int 0, .ref nv, .ref ns, .int 0, .ref nsh]))] H locs := h
  refine lv_icmp_eq (tgt := 660) hx hb dL_law_407 (by decide) (fun c_1 => ?_) (fun c_1 => absurd (by decide) c_1)
  exact law_tail X hX hbl h (lv_sub hl [0, 3] rfl) (Nat.le_of_ble_eq_true rfl) (Nat.le_of_ble_eq_true rfl)

set_option maxHeartbeats 4000000 in
set_option maxRecDepth 100000 in
theorem lw_count_w2 {nm : String} {g : GE} {pp : Program} {l : Launch} {ee : Env} {s : State} {m : MethodId} {bb : List Frame} {mm : Method} {cd : Code} {bs : Nat} {xs : Nat → Int32} {H : Heap} {locs : List Loc} {ls : Array Slot} (X : CX g pp s m mm cd #[Value.ref bs] cL_law 4 RL nm ret (LA s)) (hX : va_X bs 4 xs s s.heap) (hbl : bs < s.heap.size) {y x tx lk pa nO dO np nv ns nsh y_refused y_document y_variables y_nodes y_node y_master y_isSet y_setMany y_setFrom y_setUsed y_setText y_atStop y_isFresh y_then y_choiceMany y_choiceFrom y_choiceLong y_choiceBytes y_text y_open y_shown y_nextNode y_endNode y_made y_beganAt y_ofNode y_isOwn y_begin y_size y_holding y_kept : Nat} (h : ST g (LA s) s [(x, .inr (6, [.ref tx, .ref lk, .ref pa, .int 0, .ref nO, .ref dO, .int 0, .int 0, .int 0])), (nO, .inr (4, [.ref np, .int 0, .ref nv, .ref ns, .int 0, .ref nsh])), (y, .inr (7, [.ref y_refused, .ref y_document, .int 0, .int 0, .ref y_variables, .int 0, .ref y_nodes, .ref y_node, .ref y_master, .ref y_isSet, .ref y_setMany, .ref y_setFrom, .ref y_setUsed, .ref y_setText, .ref y_atStop, .ref y_isFresh, .ref y_then, .ref y_choiceMany, .ref y_choiceFrom, .ref y_choiceLong, .ref y_choiceBytes, .int 0, .ref y_text, .int 0, .int 0, .int 0, .int 0, .ref y_open, .int 0, .ref y_shown, .int 0, .int 0, .ref y_nextNode, .ref y_endNode, .ref y_made, .ref y_beganAt, .ref y_ofNode, .ref y_isOwn, .int 0, .ref y_begin, .ref y_size, .ref y_holding, .int 0, .ref y_kept, .int 0]))] H locs) (hl : lv_has ls 4 [(3, .int 0), (2, .ref y), (1, .ref x), (0, .ref bs)]) (e1 : xs 1 = 2) : W pp l ee room_1 s m #[Value.ref bs] bb mm cd H locs 973 728835 (lw_Z bb #[Value.ref bs] s) (F0 m 389 ls []) := by
  have hx := X.1
  have hb := X.2.1
  refine lv_aload_n hx hb dL_law_389 rfl (lv_at hl 2 rfl) ?_
  refine lv_aload_n hx hb dL_law_390 rfl (lv_at hl 3 rfl) ?_
  refine lv_iload_n hx hb dL_law_391 rfl (lv_at hl 0 rfl) ?_
  refine lv_iconst (v := 1) hx hb dL_law_392 (by decide) ?_
  refine lv_iadd hx hb dL_law_393 ?_
  refine r_vi (y := 1) (by decide) ?_
  refine r_sld X hX hbl h (v := xs 1) (vp_lit (by decide +kernel)) rfl dL_law_394 ?_
  refine r_vi (y := 2) e1 ?_
  refine k_i X h [0, 1] [2] (wr := [(y, .inr (7, [.ref y_refused, .ref y_document, .int 0, .int 0, .ref y_variables, .int 0, .ref y_nodes, .ref y_node, .ref y_master, .ref y_isSet, .ref y_setMany, .ref y_setFrom, .ref y_setUsed, .ref y_setText, .ref y_atStop, .ref y_isFresh, .ref y_then, .ref y_choiceMany, .ref y_choiceFrom, .ref y_choiceLong, .ref y_choiceBytes, .int 0, .ref y_text, .int 0, .int 0, .int 0, .int 0, .ref y_open, .int 0, .ref y_shown, .int 0, .int 0, .ref y_nextNode, .ref y_endNode, .ref y_made, .ref y_beganAt, .ref y_ofNode, .ref y_isOwn, .int 0, .ref y_begin, .ref y_size, .ref y_holding, .int 0, .ref y_kept, .int 0]))]) rfl rfl rfl (by decide) 973 728835 (Nat.le_of_ble_eq_true rfl) (Nat.le_of_ble_eq_true rfl) (k_runV X h (As := [.int 2]) (rest := []) (c6_count_w2 l g H.size x tx lk pa nO dO np nv ns nsh) cw_L_68 [0, 1] rfl rfl 0 kl6 rfl rfl rfl (Nat.le_of_ble_eq_true rfl) (Nat.le_of_ble_eq_true rfl) rfl hl.1 rfl (Nat.le_of_ble_eq_true rfl) dL_law_395 (Nat.le_of_ble_eq_true rfl) (Nat.le_of_ble_eq_true rfl)) (fun _ H locs h => ?_)
  have h : ST g (LA s) s [(y, .inr (7, [.ref y_refused, .ref y_document, .int 0, .int 0, .ref y_variables, .int 0, .ref y_nodes, .ref y_node, .ref y_master, .ref y_isSet, .ref y_setMany, .ref y_setFrom, .ref y_setUsed, .ref y_setText, .ref y_atStop, .ref y_isFresh, .ref y_then, .ref y_choiceMany, .ref y_choiceFrom, .ref y_choiceLong, .ref y_choiceBytes, .int 0, .ref y_text, .int 0, .int 0, .int 0, .int 0, .ref y_open, .int 0, .ref y_shown, .int 0, .int 0, .ref y_nextNode, .ref y_endNode, .ref y_made, .ref y_beganAt, .ref y_ofNode, .ref y_isOwn, .int 0, .ref y_begin, .ref y_size, .ref y_holding, .int 0, .ref y_kept, .int 0])), (x, .inr (6, [.ref tx, .ref lk, .ref pa, .int 0, .ref nO, .ref dO, .int 0, .int 0, .int 0])), (nO, .inr (4, [.ref np, .int 0, .ref nv, .ref ns, .int 0, .ref nsh]))] H locs := h
  refine lv_aload_n hx hb dL_law_398 rfl (lv_at hl 1 rfl) ?_
  refine lv_aload_n hx hb dL_law_399 rfl (lv_at hl 3 rfl) ?_
  refine lv_iload_n hx hb dL_law_400 rfl (lv_at hl 0 rfl) ?_
  refine lv_iconst (v := 1) hx hb dL_law_401 (by decide) ?_
  refine lv_iadd hx hb dL_law_402 ?_
  refine r_vi (y := 1) (by decide) ?_
  refine r_sld X hX hbl h (v := xs 1) (vp_lit (by decide +kernel)) rfl dL_law_403 ?_
  refine r_vi (y := 2) e1 ?_
  refine k_i X h [0] [1, 2] (wr := [(x, .inr (6, [.ref tx, .ref lk, .ref pa, .int 0, .ref nO, .ref dO, .int 0, .int 0, .int 0])), (nO, .inr (4, [.ref np, .int 0, .ref nv, .ref ns, .int 0, .ref nsh]))]) rfl rfl rfl (by decide) 973 728835 (Nat.le_of_ble_eq_true rfl) (Nat.le_of_ble_eq_true rfl) (k_runV X h (As := [.int 2]) (rest := [.int 0]) (c7_count_w2 l g H.size y y_refused y_document y_variables y_nodes y_node y_master y_isSet y_setMany y_setFrom y_setUsed y_setText y_atStop y_isFresh y_then y_choiceMany y_choiceFrom y_choiceLong y_choiceBytes y_text y_open y_shown y_nextNode y_endNode y_made y_beganAt y_ofNode y_isOwn y_begin y_size y_holding y_kept) cw_L_71 [0] rfl rfl 0 kl7 rfl rfl rfl (Nat.le_of_ble_eq_true rfl) (Nat.le_of_ble_eq_true rfl) rfl hl.1 rfl (Nat.le_of_ble_eq_true rfl) dL_law_404 (Nat.le_of_ble_eq_true rfl) (Nat.le_of_ble_eq_true rfl)) (fun _ H locs h => ?_)
  have h : ST g (LA s) s [(x, .inr (6, [.ref tx, .ref lk, .ref pa, .int 0, .ref nO, .ref dO, .int 0, .int 0, .int 0])), (nO, .inr (4, [.ref np, .int 0, .ref nv, .ref ns, .int 0, .ref nsh]))] H locs := h
  refine lv_icmp_eq (tgt := 660) hx hb dL_law_407 (by decide) (fun c_1 => ?_) (fun c_1 => absurd (by decide) c_1)
  exact law_tail X hX hbl h (lv_sub hl [0, 3] rfl) (Nat.le_of_ble_eq_true rfl) (Nat.le_of_ble_eq_true rfl)

set_option maxHeartbeats 4000000 in
set_option maxRecDepth 100000 in
theorem lw_count_w3 {nm : String} {g : GE} {pp : Program} {l : Launch} {ee : Env} {s : State} {m : MethodId} {bb : List Frame} {mm : Method} {cd : Code} {bs : Nat} {xs : Nat → Int32} {H : Heap} {locs : List Loc} {ls : Array Slot} (X : CX g pp s m mm cd #[Value.ref bs] cL_law 4 RL nm ret (LA s)) (hX : va_X bs 4 xs s s.heap) (hbl : bs < s.heap.size) {y x tx lk pa nO dO np nv ns nsh y_refused y_document y_variables y_nodes y_node y_master y_isSet y_setMany y_setFrom y_setUsed y_setText y_atStop y_isFresh y_then y_choiceMany y_choiceFrom y_choiceLong y_choiceBytes y_text y_open y_shown y_nextNode y_endNode y_made y_beganAt y_ofNode y_isOwn y_begin y_size y_holding y_kept : Nat} (h : ST g (LA s) s [(x, .inr (6, [.ref tx, .ref lk, .ref pa, .int 0, .ref nO, .ref dO, .int 0, .int 0, .int 0])), (nO, .inr (4, [.ref np, .int 0, .ref nv, .ref ns, .int 0, .ref nsh])), (y, .inr (7, [.ref y_refused, .ref y_document, .int 0, .int 0, .ref y_variables, .int 0, .ref y_nodes, .ref y_node, .ref y_master, .ref y_isSet, .ref y_setMany, .ref y_setFrom, .ref y_setUsed, .ref y_setText, .ref y_atStop, .ref y_isFresh, .ref y_then, .ref y_choiceMany, .ref y_choiceFrom, .ref y_choiceLong, .ref y_choiceBytes, .int 0, .ref y_text, .int 0, .int 0, .int 0, .int 0, .ref y_open, .int 0, .ref y_shown, .int 0, .int 0, .ref y_nextNode, .ref y_endNode, .ref y_made, .ref y_beganAt, .ref y_ofNode, .ref y_isOwn, .int 0, .ref y_begin, .ref y_size, .ref y_holding, .int 0, .ref y_kept, .int 0]))] H locs) (hl : lv_has ls 4 [(3, .int 0), (2, .ref y), (1, .ref x), (0, .ref bs)]) (e1 : xs 1 = 3) : W pp l ee room_1 s m #[Value.ref bs] bb mm cd H locs 973 728835 (lw_Z bb #[Value.ref bs] s) (F0 m 389 ls []) := by
  have hx := X.1
  have hb := X.2.1
  refine lv_aload_n hx hb dL_law_389 rfl (lv_at hl 2 rfl) ?_
  refine lv_aload_n hx hb dL_law_390 rfl (lv_at hl 3 rfl) ?_
  refine lv_iload_n hx hb dL_law_391 rfl (lv_at hl 0 rfl) ?_
  refine lv_iconst (v := 1) hx hb dL_law_392 (by decide) ?_
  refine lv_iadd hx hb dL_law_393 ?_
  refine r_vi (y := 1) (by decide) ?_
  refine r_sld X hX hbl h (v := xs 1) (vp_lit (by decide +kernel)) rfl dL_law_394 ?_
  refine r_vi (y := 3) e1 ?_
  refine k_i X h [0, 1] [2] (wr := [(y, .inr (7, [.ref y_refused, .ref y_document, .int 0, .int 0, .ref y_variables, .int 0, .ref y_nodes, .ref y_node, .ref y_master, .ref y_isSet, .ref y_setMany, .ref y_setFrom, .ref y_setUsed, .ref y_setText, .ref y_atStop, .ref y_isFresh, .ref y_then, .ref y_choiceMany, .ref y_choiceFrom, .ref y_choiceLong, .ref y_choiceBytes, .int 0, .ref y_text, .int 0, .int 0, .int 0, .int 0, .ref y_open, .int 0, .ref y_shown, .int 0, .int 0, .ref y_nextNode, .ref y_endNode, .ref y_made, .ref y_beganAt, .ref y_ofNode, .ref y_isOwn, .int 0, .ref y_begin, .ref y_size, .ref y_holding, .int 0, .ref y_kept, .int 0]))]) rfl rfl rfl (by decide) 973 728835 (Nat.le_of_ble_eq_true rfl) (Nat.le_of_ble_eq_true rfl) (k_runV X h (As := [.int 3]) (rest := []) (c6_count_w3 l g H.size x tx lk pa nO dO np nv ns nsh) cw_L_68 [0, 1] rfl rfl 0 kl6 rfl rfl rfl (Nat.le_of_ble_eq_true rfl) (Nat.le_of_ble_eq_true rfl) rfl hl.1 rfl (Nat.le_of_ble_eq_true rfl) dL_law_395 (Nat.le_of_ble_eq_true rfl) (Nat.le_of_ble_eq_true rfl)) (fun _ H locs h => ?_)
  have h : ST g (LA s) s [(y, .inr (7, [.ref y_refused, .ref y_document, .int 0, .int 0, .ref y_variables, .int 0, .ref y_nodes, .ref y_node, .ref y_master, .ref y_isSet, .ref y_setMany, .ref y_setFrom, .ref y_setUsed, .ref y_setText, .ref y_atStop, .ref y_isFresh, .ref y_then, .ref y_choiceMany, .ref y_choiceFrom, .ref y_choiceLong, .ref y_choiceBytes, .int 0, .ref y_text, .int 0, .int 0, .int 0, .int 0, .ref y_open, .int 0, .ref y_shown, .int 0, .int 0, .ref y_nextNode, .ref y_endNode, .ref y_made, .ref y_beganAt, .ref y_ofNode, .ref y_isOwn, .int 0, .ref y_begin, .ref y_size, .ref y_holding, .int 0, .ref y_kept, .int 0])), (x, .inr (6, [.ref tx, .ref lk, .ref pa, .int 0, .ref nO, .ref dO, .int 0, .int 0, .int 0])), (nO, .inr (4, [.ref np, .int 0, .ref nv, .ref ns, .int 0, .ref nsh]))] H locs := h
  refine lv_aload_n hx hb dL_law_398 rfl (lv_at hl 1 rfl) ?_
  refine lv_aload_n hx hb dL_law_399 rfl (lv_at hl 3 rfl) ?_
  refine lv_iload_n hx hb dL_law_400 rfl (lv_at hl 0 rfl) ?_
  refine lv_iconst (v := 1) hx hb dL_law_401 (by decide) ?_
  refine lv_iadd hx hb dL_law_402 ?_
  refine r_vi (y := 1) (by decide) ?_
  refine r_sld X hX hbl h (v := xs 1) (vp_lit (by decide +kernel)) rfl dL_law_403 ?_
  refine r_vi (y := 3) e1 ?_
  refine k_i X h [0] [1, 2] (wr := [(x, .inr (6, [.ref tx, .ref lk, .ref pa, .int 0, .ref nO, .ref dO, .int 0, .int 0, .int 0])), (nO, .inr (4, [.ref np, .int 0, .ref nv, .ref ns, .int 0, .ref nsh]))]) rfl rfl rfl (by decide) 973 728835 (Nat.le_of_ble_eq_true rfl) (Nat.le_of_ble_eq_true rfl) (k_runV X h (As := [.int 3]) (rest := [.int (-1)]) (c7_count_w3 l g H.size y y_refused y_document y_variables y_nodes y_node y_master y_isSet y_setMany y_setFrom y_setUsed y_setText y_atStop y_isFresh y_then y_choiceMany y_choiceFrom y_choiceLong y_choiceBytes y_text y_open y_shown y_nextNode y_endNode y_made y_beganAt y_ofNode y_isOwn y_begin y_size y_holding y_kept) cw_L_71 [0] rfl rfl 0 kl7 rfl rfl rfl (Nat.le_of_ble_eq_true rfl) (Nat.le_of_ble_eq_true rfl) rfl hl.1 rfl (Nat.le_of_ble_eq_true rfl) dL_law_404 (Nat.le_of_ble_eq_true rfl) (Nat.le_of_ble_eq_true rfl)) (fun _ H locs h => ?_)
  have h : ST g (LA s) s [(x, .inr (6, [.ref tx, .ref lk, .ref pa, .int 0, .ref nO, .ref dO, .int 0, .int 0, .int 0])), (nO, .inr (4, [.ref np, .int 0, .ref nv, .ref ns, .int 0, .ref nsh]))] H locs := h
  refine lv_icmp_eq (tgt := 660) hx hb dL_law_407 (by decide) (fun c_1 => ?_) (fun c_1 => absurd (by decide) c_1)
  exact law_tail X hX hbl h (lv_sub hl [0, 3] rfl) (Nat.le_of_ble_eq_true rfl) (Nat.le_of_ble_eq_true rfl)

set_option maxHeartbeats 4000000 in
set_option maxRecDepth 100000 in
theorem lw_count_w4 {nm : String} {g : GE} {pp : Program} {l : Launch} {ee : Env} {s : State} {m : MethodId} {bb : List Frame} {mm : Method} {cd : Code} {bs : Nat} {xs : Nat → Int32} {H : Heap} {locs : List Loc} {ls : Array Slot} (X : CX g pp s m mm cd #[Value.ref bs] cL_law 4 RL nm ret (LA s)) (hX : va_X bs 4 xs s s.heap) (hbl : bs < s.heap.size) {y x tx lk pa nO dO np nv ns nsh y_refused y_document y_variables y_nodes y_node y_master y_isSet y_setMany y_setFrom y_setUsed y_setText y_atStop y_isFresh y_then y_choiceMany y_choiceFrom y_choiceLong y_choiceBytes y_text y_open y_shown y_nextNode y_endNode y_made y_beganAt y_ofNode y_isOwn y_begin y_size y_holding y_kept : Nat} (h : ST g (LA s) s [(x, .inr (6, [.ref tx, .ref lk, .ref pa, .int 0, .ref nO, .ref dO, .int 0, .int 0, .int 0])), (nO, .inr (4, [.ref np, .int 0, .ref nv, .ref ns, .int 0, .ref nsh])), (y, .inr (7, [.ref y_refused, .ref y_document, .int 0, .int 0, .ref y_variables, .int 0, .ref y_nodes, .ref y_node, .ref y_master, .ref y_isSet, .ref y_setMany, .ref y_setFrom, .ref y_setUsed, .ref y_setText, .ref y_atStop, .ref y_isFresh, .ref y_then, .ref y_choiceMany, .ref y_choiceFrom, .ref y_choiceLong, .ref y_choiceBytes, .int 0, .ref y_text, .int 0, .int 0, .int 0, .int 0, .ref y_open, .int 0, .ref y_shown, .int 0, .int 0, .ref y_nextNode, .ref y_endNode, .ref y_made, .ref y_beganAt, .ref y_ofNode, .ref y_isOwn, .int 0, .ref y_begin, .ref y_size, .ref y_holding, .int 0, .ref y_kept, .int 0]))] H locs) (hl : lv_has ls 4 [(3, .int 0), (2, .ref y), (1, .ref x), (0, .ref bs)]) (e1 : xs 1 = 4) : W pp l ee room_1 s m #[Value.ref bs] bb mm cd H locs 973 728835 (lw_Z bb #[Value.ref bs] s) (F0 m 389 ls []) := by
  have hx := X.1
  have hb := X.2.1
  refine lv_aload_n hx hb dL_law_389 rfl (lv_at hl 2 rfl) ?_
  refine lv_aload_n hx hb dL_law_390 rfl (lv_at hl 3 rfl) ?_
  refine lv_iload_n hx hb dL_law_391 rfl (lv_at hl 0 rfl) ?_
  refine lv_iconst (v := 1) hx hb dL_law_392 (by decide) ?_
  refine lv_iadd hx hb dL_law_393 ?_
  refine r_vi (y := 1) (by decide) ?_
  refine r_sld X hX hbl h (v := xs 1) (vp_lit (by decide +kernel)) rfl dL_law_394 ?_
  refine r_vi (y := 4) e1 ?_
  refine k_i X h [0, 1] [2] (wr := [(y, .inr (7, [.ref y_refused, .ref y_document, .int 0, .int 0, .ref y_variables, .int 0, .ref y_nodes, .ref y_node, .ref y_master, .ref y_isSet, .ref y_setMany, .ref y_setFrom, .ref y_setUsed, .ref y_setText, .ref y_atStop, .ref y_isFresh, .ref y_then, .ref y_choiceMany, .ref y_choiceFrom, .ref y_choiceLong, .ref y_choiceBytes, .int 0, .ref y_text, .int 0, .int 0, .int 0, .int 0, .ref y_open, .int 0, .ref y_shown, .int 0, .int 0, .ref y_nextNode, .ref y_endNode, .ref y_made, .ref y_beganAt, .ref y_ofNode, .ref y_isOwn, .int 0, .ref y_begin, .ref y_size, .ref y_holding, .int 0, .ref y_kept, .int 0]))]) rfl rfl rfl (by decide) 973 728835 (Nat.le_of_ble_eq_true rfl) (Nat.le_of_ble_eq_true rfl) (k_runV X h (As := [.int 4]) (rest := []) (c6_count_w4 l g H.size x tx lk pa nO dO np nv ns nsh) cw_L_68 [0, 1] rfl rfl 0 kl6 rfl rfl rfl (Nat.le_of_ble_eq_true rfl) (Nat.le_of_ble_eq_true rfl) rfl hl.1 rfl (Nat.le_of_ble_eq_true rfl) dL_law_395 (Nat.le_of_ble_eq_true rfl) (Nat.le_of_ble_eq_true rfl)) (fun _ H locs h => ?_)
  have h : ST g (LA s) s [(y, .inr (7, [.ref y_refused, .ref y_document, .int 0, .int 0, .ref y_variables, .int 0, .ref y_nodes, .ref y_node, .ref y_master, .ref y_isSet, .ref y_setMany, .ref y_setFrom, .ref y_setUsed, .ref y_setText, .ref y_atStop, .ref y_isFresh, .ref y_then, .ref y_choiceMany, .ref y_choiceFrom, .ref y_choiceLong, .ref y_choiceBytes, .int 0, .ref y_text, .int 0, .int 0, .int 0, .int 0, .ref y_open, .int 0, .ref y_shown, .int 0, .int 0, .ref y_nextNode, .ref y_endNode, .ref y_made, .ref y_beganAt, .ref y_ofNode, .ref y_isOwn, .int 0, .ref y_begin, .ref y_size, .ref y_holding, .int 0, .ref y_kept, .int 0])), (x, .inr (6, [.ref tx, .ref lk, .ref pa, .int 0, .ref nO, .ref dO, .int 0, .int 0, .int 0])), (nO, .inr (4, [.ref np, .int 0, .ref nv, .ref ns, .int 0, .ref nsh]))] H locs := h
  refine lv_aload_n hx hb dL_law_398 rfl (lv_at hl 1 rfl) ?_
  refine lv_aload_n hx hb dL_law_399 rfl (lv_at hl 3 rfl) ?_
  refine lv_iload_n hx hb dL_law_400 rfl (lv_at hl 0 rfl) ?_
  refine lv_iconst (v := 1) hx hb dL_law_401 (by decide) ?_
  refine lv_iadd hx hb dL_law_402 ?_
  refine r_vi (y := 1) (by decide) ?_
  refine r_sld X hX hbl h (v := xs 1) (vp_lit (by decide +kernel)) rfl dL_law_403 ?_
  refine r_vi (y := 4) e1 ?_
  refine k_i X h [0] [1, 2] (wr := [(x, .inr (6, [.ref tx, .ref lk, .ref pa, .int 0, .ref nO, .ref dO, .int 0, .int 0, .int 0])), (nO, .inr (4, [.ref np, .int 0, .ref nv, .ref ns, .int 0, .ref nsh]))]) rfl rfl rfl (by decide) 973 728835 (Nat.le_of_ble_eq_true rfl) (Nat.le_of_ble_eq_true rfl) (k_runV X h (As := [.int 4]) (rest := [.int 0]) (c7_count_w4 l g H.size y y_refused y_document y_variables y_nodes y_node y_master y_isSet y_setMany y_setFrom y_setUsed y_setText y_atStop y_isFresh y_then y_choiceMany y_choiceFrom y_choiceLong y_choiceBytes y_text y_open y_shown y_nextNode y_endNode y_made y_beganAt y_ofNode y_isOwn y_begin y_size y_holding y_kept) cw_L_71 [0] rfl rfl 0 kl7 rfl rfl rfl (Nat.le_of_ble_eq_true rfl) (Nat.le_of_ble_eq_true rfl) rfl hl.1 rfl (Nat.le_of_ble_eq_true rfl) dL_law_404 (Nat.le_of_ble_eq_true rfl) (Nat.le_of_ble_eq_true rfl)) (fun _ H locs h => ?_)
  have h : ST g (LA s) s [(x, .inr (6, [.ref tx, .ref lk, .ref pa, .int 0, .ref nO, .ref dO, .int 0, .int 0, .int 0])), (nO, .inr (4, [.ref np, .int 0, .ref nv, .ref ns, .int 0, .ref nsh]))] H locs := h
  refine lv_icmp_eq (tgt := 660) hx hb dL_law_407 (by decide) (fun c_1 => ?_) (fun c_1 => absurd (by decide) c_1)
  exact law_tail X hX hbl h (lv_sub hl [0, 3] rfl) (Nat.le_of_ble_eq_true rfl) (Nat.le_of_ble_eq_true rfl)

set_option maxHeartbeats 4000000 in
set_option maxRecDepth 100000 in
theorem lw_count_w5 {nm : String} {g : GE} {pp : Program} {l : Launch} {ee : Env} {s : State} {m : MethodId} {bb : List Frame} {mm : Method} {cd : Code} {bs : Nat} {xs : Nat → Int32} {H : Heap} {locs : List Loc} {ls : Array Slot} (X : CX g pp s m mm cd #[Value.ref bs] cL_law 4 RL nm ret (LA s)) (hX : va_X bs 4 xs s s.heap) (hbl : bs < s.heap.size) {y x tx lk pa nO dO np nv ns nsh y_refused y_document y_variables y_nodes y_node y_master y_isSet y_setMany y_setFrom y_setUsed y_setText y_atStop y_isFresh y_then y_choiceMany y_choiceFrom y_choiceLong y_choiceBytes y_text y_open y_shown y_nextNode y_endNode y_made y_beganAt y_ofNode y_isOwn y_begin y_size y_holding y_kept : Nat} (h : ST g (LA s) s [(x, .inr (6, [.ref tx, .ref lk, .ref pa, .int 0, .ref nO, .ref dO, .int 0, .int 0, .int 0])), (nO, .inr (4, [.ref np, .int 0, .ref nv, .ref ns, .int 0, .ref nsh])), (y, .inr (7, [.ref y_refused, .ref y_document, .int 0, .int 0, .ref y_variables, .int 0, .ref y_nodes, .ref y_node, .ref y_master, .ref y_isSet, .ref y_setMany, .ref y_setFrom, .ref y_setUsed, .ref y_setText, .ref y_atStop, .ref y_isFresh, .ref y_then, .ref y_choiceMany, .ref y_choiceFrom, .ref y_choiceLong, .ref y_choiceBytes, .int 0, .ref y_text, .int 0, .int 0, .int 0, .int 0, .ref y_open, .int 0, .ref y_shown, .int 0, .int 0, .ref y_nextNode, .ref y_endNode, .ref y_made, .ref y_beganAt, .ref y_ofNode, .ref y_isOwn, .int 0, .ref y_begin, .ref y_size, .ref y_holding, .int 0, .ref y_kept, .int 0]))] H locs) (hl : lv_has ls 4 [(3, .int 0), (2, .ref y), (1, .ref x), (0, .ref bs)]) (e1 : xs 1 = 5) : W pp l ee room_1 s m #[Value.ref bs] bb mm cd H locs 973 728835 (lw_Z bb #[Value.ref bs] s) (F0 m 389 ls []) := by
  have hx := X.1
  have hb := X.2.1
  refine lv_aload_n hx hb dL_law_389 rfl (lv_at hl 2 rfl) ?_
  refine lv_aload_n hx hb dL_law_390 rfl (lv_at hl 3 rfl) ?_
  refine lv_iload_n hx hb dL_law_391 rfl (lv_at hl 0 rfl) ?_
  refine lv_iconst (v := 1) hx hb dL_law_392 (by decide) ?_
  refine lv_iadd hx hb dL_law_393 ?_
  refine r_vi (y := 1) (by decide) ?_
  refine r_sld X hX hbl h (v := xs 1) (vp_lit (by decide +kernel)) rfl dL_law_394 ?_
  refine r_vi (y := 5) e1 ?_
  refine k_i X h [0, 1] [2] (wr := [(y, .inr (7, [.ref y_refused, .ref y_document, .int 0, .int 0, .ref y_variables, .int 0, .ref y_nodes, .ref y_node, .ref y_master, .ref y_isSet, .ref y_setMany, .ref y_setFrom, .ref y_setUsed, .ref y_setText, .ref y_atStop, .ref y_isFresh, .ref y_then, .ref y_choiceMany, .ref y_choiceFrom, .ref y_choiceLong, .ref y_choiceBytes, .int 0, .ref y_text, .int 0, .int 0, .int 0, .int 0, .ref y_open, .int 0, .ref y_shown, .int 0, .int 0, .ref y_nextNode, .ref y_endNode, .ref y_made, .ref y_beganAt, .ref y_ofNode, .ref y_isOwn, .int 0, .ref y_begin, .ref y_size, .ref y_holding, .int 0, .ref y_kept, .int 0]))]) rfl rfl rfl (by decide) 973 728835 (Nat.le_of_ble_eq_true rfl) (Nat.le_of_ble_eq_true rfl) (k_runV X h (As := [.int 5]) (rest := []) (c6_count_w5 l g H.size x tx lk pa nO dO np nv ns nsh) cw_L_68 [0, 1] rfl rfl 0 kl6 rfl rfl rfl (Nat.le_of_ble_eq_true rfl) (Nat.le_of_ble_eq_true rfl) rfl hl.1 rfl (Nat.le_of_ble_eq_true rfl) dL_law_395 (Nat.le_of_ble_eq_true rfl) (Nat.le_of_ble_eq_true rfl)) (fun _ H locs h => ?_)
  have h : ST g (LA s) s [(y, .inr (7, [.ref y_refused, .ref y_document, .int 0, .int 0, .ref y_variables, .int 0, .ref y_nodes, .ref y_node, .ref y_master, .ref y_isSet, .ref y_setMany, .ref y_setFrom, .ref y_setUsed, .ref y_setText, .ref y_atStop, .ref y_isFresh, .ref y_then, .ref y_choiceMany, .ref y_choiceFrom, .ref y_choiceLong, .ref y_choiceBytes, .int 0, .ref y_text, .int 0, .int 0, .int 0, .int 0, .ref y_open, .int 0, .ref y_shown, .int 0, .int 0, .ref y_nextNode, .ref y_endNode, .ref y_made, .ref y_beganAt, .ref y_ofNode, .ref y_isOwn, .int 0, .ref y_begin, .ref y_size, .ref y_holding, .int 0, .ref y_kept, .int 0])), (x, .inr (6, [.ref tx, .ref lk, .ref pa, .int 0, .ref nO, .ref dO, .int 0, .int 0, .int 0])), (nO, .inr (4, [.ref np, .int 0, .ref nv, .ref ns, .int 0, .ref nsh]))] H locs := h
  refine lv_aload_n hx hb dL_law_398 rfl (lv_at hl 1 rfl) ?_
  refine lv_aload_n hx hb dL_law_399 rfl (lv_at hl 3 rfl) ?_
  refine lv_iload_n hx hb dL_law_400 rfl (lv_at hl 0 rfl) ?_
  refine lv_iconst (v := 1) hx hb dL_law_401 (by decide) ?_
  refine lv_iadd hx hb dL_law_402 ?_
  refine r_vi (y := 1) (by decide) ?_
  refine r_sld X hX hbl h (v := xs 1) (vp_lit (by decide +kernel)) rfl dL_law_403 ?_
  refine r_vi (y := 5) e1 ?_
  refine k_i X h [0] [1, 2] (wr := [(x, .inr (6, [.ref tx, .ref lk, .ref pa, .int 0, .ref nO, .ref dO, .int 0, .int 0, .int 0])), (nO, .inr (4, [.ref np, .int 0, .ref nv, .ref ns, .int 0, .ref nsh]))]) rfl rfl rfl (by decide) 973 728835 (Nat.le_of_ble_eq_true rfl) (Nat.le_of_ble_eq_true rfl) (k_runV X h (As := [.int 5]) (rest := [.int 0]) (c7_count_w5 l g H.size y y_refused y_document y_variables y_nodes y_node y_master y_isSet y_setMany y_setFrom y_setUsed y_setText y_atStop y_isFresh y_then y_choiceMany y_choiceFrom y_choiceLong y_choiceBytes y_text y_open y_shown y_nextNode y_endNode y_made y_beganAt y_ofNode y_isOwn y_begin y_size y_holding y_kept) cw_L_71 [0] rfl rfl 0 kl7 rfl rfl rfl (Nat.le_of_ble_eq_true rfl) (Nat.le_of_ble_eq_true rfl) rfl hl.1 rfl (Nat.le_of_ble_eq_true rfl) dL_law_404 (Nat.le_of_ble_eq_true rfl) (Nat.le_of_ble_eq_true rfl)) (fun _ H locs h => ?_)
  have h : ST g (LA s) s [(x, .inr (6, [.ref tx, .ref lk, .ref pa, .int 0, .ref nO, .ref dO, .int 0, .int 0, .int 0])), (nO, .inr (4, [.ref np, .int 0, .ref nv, .ref ns, .int 0, .ref nsh]))] H locs := h
  refine lv_icmp_eq (tgt := 660) hx hb dL_law_407 (by decide) (fun c_1 => ?_) (fun c_1 => absurd (by decide) c_1)
  exact law_tail X hX hbl h (lv_sub hl [0, 3] rfl) (Nat.le_of_ble_eq_true rfl) (Nat.le_of_ble_eq_true rfl)

set_option maxHeartbeats 4000000 in
set_option maxRecDepth 100000 in
theorem lw_count_lo {nm : String} {g : GE} {pp : Program} {l : Launch} {ee : Env} {s : State} {m : MethodId} {bb : List Frame} {mm : Method} {cd : Code} {bs : Nat} {xs : Nat → Int32} {H : Heap} {locs : List Loc} {ls : Array Slot} (X : CX g pp s m mm cd #[Value.ref bs] cL_law 4 RL nm ret (LA s)) (hX : va_X bs 4 xs s s.heap) (hbl : bs < s.heap.size) {y x tx lk pa nO dO np nv ns nsh y_refused y_document y_variables y_nodes y_node y_master y_isSet y_setMany y_setFrom y_setUsed y_setText y_atStop y_isFresh y_then y_choiceMany y_choiceFrom y_choiceLong y_choiceBytes y_text y_open y_shown y_nextNode y_endNode y_made y_beganAt y_ofNode y_isOwn y_begin y_size y_holding y_kept : Nat} (h : ST g (LA s) s [(x, .inr (6, [.ref tx, .ref lk, .ref pa, .int 0, .ref nO, .ref dO, .int 0, .int 0, .int 0])), (nO, .inr (4, [.ref np, .int 0, .ref nv, .ref ns, .int 0, .ref nsh])), (y, .inr (7, [.ref y_refused, .ref y_document, .int 0, .int 0, .ref y_variables, .int 0, .ref y_nodes, .ref y_node, .ref y_master, .ref y_isSet, .ref y_setMany, .ref y_setFrom, .ref y_setUsed, .ref y_setText, .ref y_atStop, .ref y_isFresh, .ref y_then, .ref y_choiceMany, .ref y_choiceFrom, .ref y_choiceLong, .ref y_choiceBytes, .int 0, .ref y_text, .int 0, .int 0, .int 0, .int 0, .ref y_open, .int 0, .ref y_shown, .int 0, .int 0, .ref y_nextNode, .ref y_endNode, .ref y_made, .ref y_beganAt, .ref y_ofNode, .ref y_isOwn, .int 0, .ref y_begin, .ref y_size, .ref y_holding, .int 0, .ref y_kept, .int 0])), (y_refused, .inl (g.2 1, 3, .inl (fun _ => 0)))] H locs) (hl : lv_has ls 4 [(3, .int 0), (2, .ref y), (1, .ref x), (0, .ref bs)]) {c : Int32} (e1 : xs 1 = c) (h1 : c < 0) (h3 : Int32.toInt c < 0 ∨ 5 < Int32.toInt c) : W pp l ee room_1 s m #[Value.ref bs] bb mm cd H locs 973 728835 (lw_Z bb #[Value.ref bs] s) (F0 m 389 ls []) := by
  have hx := X.1
  have hb := X.2.1
  refine lv_aload_n hx hb dL_law_389 rfl (lv_at hl 2 rfl) ?_
  refine lv_aload_n hx hb dL_law_390 rfl (lv_at hl 3 rfl) ?_
  refine lv_iload_n hx hb dL_law_391 rfl (lv_at hl 0 rfl) ?_
  refine lv_iconst (v := 1) hx hb dL_law_392 (by decide) ?_
  refine lv_iadd hx hb dL_law_393 ?_
  refine r_vi (y := 1) (by decide) ?_
  refine r_sld X hX hbl h (v := xs 1) (vp_lit (by decide +kernel)) rfl dL_law_394 ?_
  refine r_vi (y := c) e1 ?_
  refine k_i X h [0, 1] [2, 3] (wr := [(y, .inr (7, [.ref y_refused, .ref y_document, .int 0, .int 0, .ref y_variables, .int 0, .ref y_nodes, .ref y_node, .ref y_master, .ref y_isSet, .ref y_setMany, .ref y_setFrom, .ref y_setUsed, .ref y_setText, .ref y_atStop, .ref y_isFresh, .ref y_then, .ref y_choiceMany, .ref y_choiceFrom, .ref y_choiceLong, .ref y_choiceBytes, .int 0, .ref y_text, .int 0, .int 0, .int 0, .int 0, .ref y_open, .int 0, .ref y_shown, .int 0, .int 0, .ref y_nextNode, .ref y_endNode, .ref y_made, .ref y_beganAt, .ref y_ofNode, .ref y_isOwn, .int 0, .ref y_begin, .ref y_size, .ref y_holding, .int 0, .ref y_kept, .int 0])), (y_refused, .inl (g.2 1, 3, .inl (fun _ => 0)))]) rfl rfl rfl (by decide) 973 728835 (Nat.le_of_ble_eq_true rfl) (Nat.le_of_ble_eq_true rfl) (k_runV X h (As := [.int c]) (rest := []) (c6_count_lo l g H.size x tx lk pa nO dO np nv ns nsh c h1 h3) cw_L_68 [0, 1] rfl rfl 0 kl6 rfl rfl rfl (Nat.le_of_ble_eq_true rfl) (Nat.le_of_ble_eq_true rfl) rfl hl.1 rfl (Nat.le_of_ble_eq_true rfl) dL_law_395 (Nat.le_of_ble_eq_true rfl) (Nat.le_of_ble_eq_true rfl)) (fun _ H locs h => ?_)
  have h : ST g (LA s) s [(y, .inr (7, [.ref y_refused, .ref y_document, .int 0, .int 0, .ref y_variables, .int 0, .ref y_nodes, .ref y_node, .ref y_master, .ref y_isSet, .ref y_setMany, .ref y_setFrom, .ref y_setUsed, .ref y_setText, .ref y_atStop, .ref y_isFresh, .ref y_then, .ref y_choiceMany, .ref y_choiceFrom, .ref y_choiceLong, .ref y_choiceBytes, .int 0, .ref y_text, .int 0, .int 0, .int 0, .int 0, .ref y_open, .int 0, .ref y_shown, .int 0, .int 0, .ref y_nextNode, .ref y_endNode, .ref y_made, .ref y_beganAt, .ref y_ofNode, .ref y_isOwn, .int 0, .ref y_begin, .ref y_size, .ref y_holding, .int 0, .ref y_kept, .int 0])), (y_refused, .inl (g.2 1, 3, .inl (fun _ => 0)))] H locs := h
  refine lv_aload_n hx hb dL_law_398 rfl (lv_at hl 1 rfl) ?_
  refine lv_aload_n hx hb dL_law_399 rfl (lv_at hl 3 rfl) ?_
  refine lv_iload_n hx hb dL_law_400 rfl (lv_at hl 0 rfl) ?_
  refine lv_iconst (v := 1) hx hb dL_law_401 (by decide) ?_
  refine lv_iadd hx hb dL_law_402 ?_
  refine r_vi (y := 1) (by decide) ?_
  refine r_sld X hX hbl h (v := xs 1) (vp_lit (by decide +kernel)) rfl dL_law_403 ?_
  refine r_vi (y := c) e1 ?_
  refine k_i X h [0, 1] [] (wr := []) rfl rfl rfl (by decide) 973 728835 (Nat.le_of_ble_eq_true rfl) (Nat.le_of_ble_eq_true rfl) (k_runV X h (As := [.int c]) (rest := [.int (-2)]) (c7_count_lo l g H.size y y_refused y_document y_variables y_nodes y_node y_master y_isSet y_setMany y_setFrom y_setUsed y_setText y_atStop y_isFresh y_then y_choiceMany y_choiceFrom y_choiceLong y_choiceBytes y_text y_open y_shown y_nextNode y_endNode y_made y_beganAt y_ofNode y_isOwn y_begin y_size y_holding y_kept c h1 h3) cw_L_71 [0, 1] rfl rfl 0 kl7 rfl rfl rfl (Nat.le_of_ble_eq_true rfl) (Nat.le_of_ble_eq_true rfl) rfl hl.1 rfl (Nat.le_of_ble_eq_true rfl) dL_law_404 (Nat.le_of_ble_eq_true rfl) (Nat.le_of_ble_eq_true rfl)) (fun _ H locs h => ?_)
  have h : ST g (LA s) s [] H locs := h
  refine lv_icmp_eq (tgt := 660) hx hb dL_law_407 (by decide) (fun c_1 => ?_) (fun c_1 => absurd (by decide) c_1)
  exact law_tail X hX hbl h (lv_sub hl [0, 3] rfl) (Nat.le_of_ble_eq_true rfl) (Nat.le_of_ble_eq_true rfl)

set_option maxHeartbeats 4000000 in
set_option maxRecDepth 100000 in
theorem lw_count_hi {nm : String} {g : GE} {pp : Program} {l : Launch} {ee : Env} {s : State} {m : MethodId} {bb : List Frame} {mm : Method} {cd : Code} {bs : Nat} {xs : Nat → Int32} {H : Heap} {locs : List Loc} {ls : Array Slot} (X : CX g pp s m mm cd #[Value.ref bs] cL_law 4 RL nm ret (LA s)) (hX : va_X bs 4 xs s s.heap) (hbl : bs < s.heap.size) {y x tx lk pa nO dO np nv ns nsh y_refused y_document y_variables y_nodes y_node y_master y_isSet y_setMany y_setFrom y_setUsed y_setText y_atStop y_isFresh y_then y_choiceMany y_choiceFrom y_choiceLong y_choiceBytes y_text y_open y_shown y_nextNode y_endNode y_made y_beganAt y_ofNode y_isOwn y_begin y_size y_holding y_kept : Nat} (h : ST g (LA s) s [(x, .inr (6, [.ref tx, .ref lk, .ref pa, .int 0, .ref nO, .ref dO, .int 0, .int 0, .int 0])), (nO, .inr (4, [.ref np, .int 0, .ref nv, .ref ns, .int 0, .ref nsh])), (y, .inr (7, [.ref y_refused, .ref y_document, .int 0, .int 0, .ref y_variables, .int 0, .ref y_nodes, .ref y_node, .ref y_master, .ref y_isSet, .ref y_setMany, .ref y_setFrom, .ref y_setUsed, .ref y_setText, .ref y_atStop, .ref y_isFresh, .ref y_then, .ref y_choiceMany, .ref y_choiceFrom, .ref y_choiceLong, .ref y_choiceBytes, .int 0, .ref y_text, .int 0, .int 0, .int 0, .int 0, .ref y_open, .int 0, .ref y_shown, .int 0, .int 0, .ref y_nextNode, .ref y_endNode, .ref y_made, .ref y_beganAt, .ref y_ofNode, .ref y_isOwn, .int 0, .ref y_begin, .ref y_size, .ref y_holding, .int 0, .ref y_kept, .int 0])), (y_refused, .inl (g.2 1, 3, .inl (fun _ => 0)))] H locs) (hl : lv_has ls 4 [(3, .int 0), (2, .ref y), (1, .ref x), (0, .ref bs)]) {c : Int32} (e1 : xs 1 = c) (h1 : ¬ c < 0) (h2 : 5 < c) (h3 : Int32.toInt c < 0 ∨ 5 < Int32.toInt c) : W pp l ee room_1 s m #[Value.ref bs] bb mm cd H locs 973 728835 (lw_Z bb #[Value.ref bs] s) (F0 m 389 ls []) := by
  have hx := X.1
  have hb := X.2.1
  refine lv_aload_n hx hb dL_law_389 rfl (lv_at hl 2 rfl) ?_
  refine lv_aload_n hx hb dL_law_390 rfl (lv_at hl 3 rfl) ?_
  refine lv_iload_n hx hb dL_law_391 rfl (lv_at hl 0 rfl) ?_
  refine lv_iconst (v := 1) hx hb dL_law_392 (by decide) ?_
  refine lv_iadd hx hb dL_law_393 ?_
  refine r_vi (y := 1) (by decide) ?_
  refine r_sld X hX hbl h (v := xs 1) (vp_lit (by decide +kernel)) rfl dL_law_394 ?_
  refine r_vi (y := c) e1 ?_
  refine k_i X h [0, 1] [2, 3] (wr := [(y, .inr (7, [.ref y_refused, .ref y_document, .int 0, .int 0, .ref y_variables, .int 0, .ref y_nodes, .ref y_node, .ref y_master, .ref y_isSet, .ref y_setMany, .ref y_setFrom, .ref y_setUsed, .ref y_setText, .ref y_atStop, .ref y_isFresh, .ref y_then, .ref y_choiceMany, .ref y_choiceFrom, .ref y_choiceLong, .ref y_choiceBytes, .int 0, .ref y_text, .int 0, .int 0, .int 0, .int 0, .ref y_open, .int 0, .ref y_shown, .int 0, .int 0, .ref y_nextNode, .ref y_endNode, .ref y_made, .ref y_beganAt, .ref y_ofNode, .ref y_isOwn, .int 0, .ref y_begin, .ref y_size, .ref y_holding, .int 0, .ref y_kept, .int 0])), (y_refused, .inl (g.2 1, 3, .inl (fun _ => 0)))]) rfl rfl rfl (by decide) 973 728835 (Nat.le_of_ble_eq_true rfl) (Nat.le_of_ble_eq_true rfl) (k_runV X h (As := [.int c]) (rest := []) (c6_count_hi l g H.size x tx lk pa nO dO np nv ns nsh c h1 h2 h3) cw_L_68 [0, 1] rfl rfl 0 kl6 rfl rfl rfl (Nat.le_of_ble_eq_true rfl) (Nat.le_of_ble_eq_true rfl) rfl hl.1 rfl (Nat.le_of_ble_eq_true rfl) dL_law_395 (Nat.le_of_ble_eq_true rfl) (Nat.le_of_ble_eq_true rfl)) (fun _ H locs h => ?_)
  have h : ST g (LA s) s [(y, .inr (7, [.ref y_refused, .ref y_document, .int 0, .int 0, .ref y_variables, .int 0, .ref y_nodes, .ref y_node, .ref y_master, .ref y_isSet, .ref y_setMany, .ref y_setFrom, .ref y_setUsed, .ref y_setText, .ref y_atStop, .ref y_isFresh, .ref y_then, .ref y_choiceMany, .ref y_choiceFrom, .ref y_choiceLong, .ref y_choiceBytes, .int 0, .ref y_text, .int 0, .int 0, .int 0, .int 0, .ref y_open, .int 0, .ref y_shown, .int 0, .int 0, .ref y_nextNode, .ref y_endNode, .ref y_made, .ref y_beganAt, .ref y_ofNode, .ref y_isOwn, .int 0, .ref y_begin, .ref y_size, .ref y_holding, .int 0, .ref y_kept, .int 0])), (y_refused, .inl (g.2 1, 3, .inl (fun _ => 0)))] H locs := h
  refine lv_aload_n hx hb dL_law_398 rfl (lv_at hl 1 rfl) ?_
  refine lv_aload_n hx hb dL_law_399 rfl (lv_at hl 3 rfl) ?_
  refine lv_iload_n hx hb dL_law_400 rfl (lv_at hl 0 rfl) ?_
  refine lv_iconst (v := 1) hx hb dL_law_401 (by decide) ?_
  refine lv_iadd hx hb dL_law_402 ?_
  refine r_vi (y := 1) (by decide) ?_
  refine r_sld X hX hbl h (v := xs 1) (vp_lit (by decide +kernel)) rfl dL_law_403 ?_
  refine r_vi (y := c) e1 ?_
  refine k_i X h [0, 1] [] (wr := []) rfl rfl rfl (by decide) 973 728835 (Nat.le_of_ble_eq_true rfl) (Nat.le_of_ble_eq_true rfl) (k_runV X h (As := [.int c]) (rest := [.int (-2)]) (c7_count_hi l g H.size y y_refused y_document y_variables y_nodes y_node y_master y_isSet y_setMany y_setFrom y_setUsed y_setText y_atStop y_isFresh y_then y_choiceMany y_choiceFrom y_choiceLong y_choiceBytes y_text y_open y_shown y_nextNode y_endNode y_made y_beganAt y_ofNode y_isOwn y_begin y_size y_holding y_kept c h1 h2 h3) cw_L_71 [0, 1] rfl rfl 0 kl7 rfl rfl rfl (Nat.le_of_ble_eq_true rfl) (Nat.le_of_ble_eq_true rfl) rfl hl.1 rfl (Nat.le_of_ble_eq_true rfl) dL_law_404 (Nat.le_of_ble_eq_true rfl) (Nat.le_of_ble_eq_true rfl)) (fun _ H locs h => ?_)
  have h : ST g (LA s) s [] H locs := h
  refine lv_icmp_eq (tgt := 660) hx hb dL_law_407 (by decide) (fun c_1 => ?_) (fun c_1 => absurd (by decide) c_1)
  exact law_tail X hX hbl h (lv_sub hl [0, 3] rfl) (Nat.le_of_ble_eq_true rfl) (Nat.le_of_ble_eq_true rfl)

set_option maxHeartbeats 4000000 in
set_option maxRecDepth 100000 in
theorem lw_stop_lo {nm : String} {g : GE} {pp : Program} {l : Launch} {ee : Env} {s : State} {m : MethodId} {bb : List Frame} {mm : Method} {cd : Code} {bs : Nat} {xs : Nat → Int32} {H : Heap} {locs : List Loc} {ls : Array Slot} (X : CX g pp s m mm cd #[Value.ref bs] cL_law 4 RL nm ret (LA s)) (hX : va_X bs 4 xs s s.heap) (hbl : bs < s.heap.size) {y x tx lk pa nO dO y_refused y_document y_variables y_nodes y_node y_master y_isSet y_setMany y_setFrom y_setUsed y_setText y_atStop y_isFresh y_then y_choiceMany y_choiceFrom y_choiceLong y_choiceBytes y_text y_open y_shown y_nextNode y_endNode y_made y_beganAt y_ofNode y_isOwn y_begin y_size y_holding y_kept : Nat} (h : ST g (LA s) s [(x, .inr (6, [.ref tx, .ref lk, .ref pa, .int 0, .ref nO, .ref dO, .int 0, .int 0, .int 0])), (y, .inr (7, [.ref y_refused, .ref y_document, .int 0, .int 0, .ref y_variables, .int 0, .ref y_nodes, .ref y_node, .ref y_master, .ref y_isSet, .ref y_setMany, .ref y_setFrom, .ref y_setUsed, .ref y_setText, .ref y_atStop, .ref y_isFresh, .ref y_then, .ref y_choiceMany, .ref y_choiceFrom, .ref y_choiceLong, .ref y_choiceBytes, .int 0, .ref y_text, .int 0, .int 0, .int 0, .int 0, .ref y_open, .int 0, .ref y_shown, .int 0, .int 0, .ref y_nextNode, .ref y_endNode, .ref y_made, .ref y_beganAt, .ref y_ofNode, .ref y_isOwn, .int 0, .ref y_begin, .ref y_size, .ref y_holding, .int 0, .ref y_kept, .int 0])), (y_refused, .inl (g.2 1, 3, .inl (fun _ => 0)))] H locs) (hl : lv_has ls 4 [(3, .int 0), (2, .ref y), (1, .ref x), (0, .ref bs)]) {c : Int32} {i : Int32} (e1 : xs 1 = c) (e2 : xs 2 = i) (h1 : c < 0) : W pp l ee room_1 s m #[Value.ref bs] bb mm cd H locs 973 728835 (lw_Z bb #[Value.ref bs] s) (F0 m 412 ls []) := by
  have hx := X.1
  have hb := X.2.1
  refine lv_aload_n hx hb dL_law_412 rfl (lv_at hl 2 rfl) ?_
  refine lv_aload_n hx hb dL_law_413 rfl (lv_at hl 3 rfl) ?_
  refine lv_iload_n hx hb dL_law_414 rfl (lv_at hl 0 rfl) ?_
  refine lv_iconst (v := 1) hx hb dL_law_415 (by decide) ?_
  refine lv_iadd hx hb dL_law_416 ?_
  refine r_vi (y := 1) (by decide) ?_
  refine r_sld X hX hbl h (v := xs 1) (vp_lit (by decide +kernel)) rfl dL_law_417 ?_
  refine r_vi (y := c) e1 ?_
  refine lv_aload_n hx hb dL_law_418 rfl (lv_at hl 3 rfl) ?_
  refine lv_iload_n hx hb dL_law_419 rfl (lv_at hl 0 rfl) ?_
  refine lv_iconst (v := 2) hx hb dL_law_420 (by decide) ?_
  refine lv_iadd hx hb dL_law_421 ?_
  refine r_vi (y := 2) (by decide) ?_
  refine r_sld X hX hbl h (v := xs 2) (vp_lit (by decide +kernel)) rfl dL_law_422 ?_
  refine r_vi (y := i) e2 ?_
  refine k_i X h [0] [1, 2] (wr := [(y, .inr (7, [.ref y_refused, .ref y_document, .int 0, .int 0, .ref y_variables, .int 0, .ref y_nodes, .ref y_node, .ref y_master, .ref y_isSet, .ref y_setMany, .ref y_setFrom, .ref y_setUsed, .ref y_setText, .ref y_atStop, .ref y_isFresh, .ref y_then, .ref y_choiceMany, .ref y_choiceFrom, .ref y_choiceLong, .ref y_choiceBytes, .int 0, .ref y_text, .int 0, .int 0, .int 0, .int 0, .ref y_open, .int 0, .ref y_shown, .int 0, .int 0, .ref y_nextNode, .ref y_endNode, .ref y_made, .ref y_beganAt, .ref y_ofNode, .ref y_isOwn, .int 0, .ref y_begin, .ref y_size, .ref y_holding, .int 0, .ref y_kept, .int 0])), (y_refused, .inl (g.2 1, 3, .inl (fun _ => 0)))]) rfl rfl rfl (by decide) 973 728835 (Nat.le_of_ble_eq_true rfl) (Nat.le_of_ble_eq_true rfl) (k_runV X h (As := [.int c, .int i]) (rest := []) (c6_stop_lo l g H.size x tx lk pa nO dO c i h1) cw_L_72 [0] rfl rfl 0 kl6 rfl rfl rfl (Nat.le_of_ble_eq_true rfl) (Nat.le_of_ble_eq_true rfl) rfl hl.1 rfl (Nat.le_of_ble_eq_true rfl) dL_law_423 (Nat.le_of_ble_eq_true rfl) (Nat.le_of_ble_eq_true rfl)) (fun _ H locs h => ?_)
  have h : ST g (LA s) s [(y, .inr (7, [.ref y_refused, .ref y_document, .int 0, .int 0, .ref y_variables, .int 0, .ref y_nodes, .ref y_node, .ref y_master, .ref y_isSet, .ref y_setMany, .ref y_setFrom, .ref y_setUsed, .ref y_setText, .ref y_atStop, .ref y_isFresh, .ref y_then, .ref y_choiceMany, .ref y_choiceFrom, .ref y_choiceLong, .ref y_choiceBytes, .int 0, .ref y_text, .int 0, .int 0, .int 0, .int 0, .ref y_open, .int 0, .ref y_shown, .int 0, .int 0, .ref y_nextNode, .ref y_endNode, .ref y_made, .ref y_beganAt, .ref y_ofNode, .ref y_isOwn, .int 0, .ref y_begin, .ref y_size, .ref y_holding, .int 0, .ref y_kept, .int 0])), (y_refused, .inl (g.2 1, 3, .inl (fun _ => 0)))] H locs := h
  refine lv_aload_n hx hb dL_law_426 rfl (lv_at hl 1 rfl) ?_
  refine lv_aload_n hx hb dL_law_427 rfl (lv_at hl 3 rfl) ?_
  refine lv_iload_n hx hb dL_law_428 rfl (lv_at hl 0 rfl) ?_
  refine lv_iconst (v := 1) hx hb dL_law_429 (by decide) ?_
  refine lv_iadd hx hb dL_law_430 ?_
  refine r_vi (y := 1) (by decide) ?_
  refine r_sld X hX hbl h (v := xs 1) (vp_lit (by decide +kernel)) rfl dL_law_431 ?_
  refine r_vi (y := c) e1 ?_
  refine lv_aload_n hx hb dL_law_432 rfl (lv_at hl 3 rfl) ?_
  refine lv_iload_n hx hb dL_law_433 rfl (lv_at hl 0 rfl) ?_
  refine lv_iconst (v := 2) hx hb dL_law_434 (by decide) ?_
  refine lv_iadd hx hb dL_law_435 ?_
  refine r_vi (y := 2) (by decide) ?_
  refine r_sld X hX hbl h (v := xs 2) (vp_lit (by decide +kernel)) rfl dL_law_436 ?_
  refine r_vi (y := i) e2 ?_
  refine k_i X h [0, 1] [] (wr := []) rfl rfl rfl (by decide) 973 728835 (Nat.le_of_ble_eq_true rfl) (Nat.le_of_ble_eq_true rfl) (k_runV X h (As := [.int c, .int i]) (rest := [.int (-2)]) (c7_stop_lo l g H.size y y_refused y_document y_variables y_nodes y_node y_master y_isSet y_setMany y_setFrom y_setUsed y_setText y_atStop y_isFresh y_then y_choiceMany y_choiceFrom y_choiceLong y_choiceBytes y_text y_open y_shown y_nextNode y_endNode y_made y_beganAt y_ofNode y_isOwn y_begin y_size y_holding y_kept c i h1) cw_L_75 [0, 1] rfl rfl 0 kl7 rfl rfl rfl (Nat.le_of_ble_eq_true rfl) (Nat.le_of_ble_eq_true rfl) rfl hl.1 rfl (Nat.le_of_ble_eq_true rfl) dL_law_437 (Nat.le_of_ble_eq_true rfl) (Nat.le_of_ble_eq_true rfl)) (fun _ H locs h => ?_)
  have h : ST g (LA s) s [] H locs := h
  refine lv_icmp_eq (tgt := 660) hx hb dL_law_440 (by decide) (fun c_1 => ?_) (fun c_1 => absurd (by decide) c_1)
  exact law_tail X hX hbl h (lv_sub hl [0, 3] rfl) (Nat.le_of_ble_eq_true rfl) (Nat.le_of_ble_eq_true rfl)

set_option maxHeartbeats 4000000 in
set_option maxRecDepth 100000 in
theorem lw_stop_hi {nm : String} {g : GE} {pp : Program} {l : Launch} {ee : Env} {s : State} {m : MethodId} {bb : List Frame} {mm : Method} {cd : Code} {bs : Nat} {xs : Nat → Int32} {H : Heap} {locs : List Loc} {ls : Array Slot} (X : CX g pp s m mm cd #[Value.ref bs] cL_law 4 RL nm ret (LA s)) (hX : va_X bs 4 xs s s.heap) (hbl : bs < s.heap.size) {y x tx lk pa nO dO y_refused y_document y_variables y_nodes y_node y_master y_isSet y_setMany y_setFrom y_setUsed y_setText y_atStop y_isFresh y_then y_choiceMany y_choiceFrom y_choiceLong y_choiceBytes y_text y_open y_shown y_nextNode y_endNode y_made y_beganAt y_ofNode y_isOwn y_begin y_size y_holding y_kept : Nat} (h : ST g (LA s) s [(x, .inr (6, [.ref tx, .ref lk, .ref pa, .int 0, .ref nO, .ref dO, .int 0, .int 0, .int 0])), (y, .inr (7, [.ref y_refused, .ref y_document, .int 0, .int 0, .ref y_variables, .int 0, .ref y_nodes, .ref y_node, .ref y_master, .ref y_isSet, .ref y_setMany, .ref y_setFrom, .ref y_setUsed, .ref y_setText, .ref y_atStop, .ref y_isFresh, .ref y_then, .ref y_choiceMany, .ref y_choiceFrom, .ref y_choiceLong, .ref y_choiceBytes, .int 0, .ref y_text, .int 0, .int 0, .int 0, .int 0, .ref y_open, .int 0, .ref y_shown, .int 0, .int 0, .ref y_nextNode, .ref y_endNode, .ref y_made, .ref y_beganAt, .ref y_ofNode, .ref y_isOwn, .int 0, .ref y_begin, .ref y_size, .ref y_holding, .int 0, .ref y_kept, .int 0])), (y_refused, .inl (g.2 1, 3, .inl (fun _ => 0)))] H locs) (hl : lv_has ls 4 [(3, .int 0), (2, .ref y), (1, .ref x), (0, .ref bs)]) {c : Int32} {i : Int32} (e1 : xs 1 = c) (e2 : xs 2 = i) (h1 : ¬ c < 0) (h2 : 9 < c) (h3 : 10 ≤ c) : W pp l ee room_1 s m #[Value.ref bs] bb mm cd H locs 973 728835 (lw_Z bb #[Value.ref bs] s) (F0 m 412 ls []) := by
  have hx := X.1
  have hb := X.2.1
  refine lv_aload_n hx hb dL_law_412 rfl (lv_at hl 2 rfl) ?_
  refine lv_aload_n hx hb dL_law_413 rfl (lv_at hl 3 rfl) ?_
  refine lv_iload_n hx hb dL_law_414 rfl (lv_at hl 0 rfl) ?_
  refine lv_iconst (v := 1) hx hb dL_law_415 (by decide) ?_
  refine lv_iadd hx hb dL_law_416 ?_
  refine r_vi (y := 1) (by decide) ?_
  refine r_sld X hX hbl h (v := xs 1) (vp_lit (by decide +kernel)) rfl dL_law_417 ?_
  refine r_vi (y := c) e1 ?_
  refine lv_aload_n hx hb dL_law_418 rfl (lv_at hl 3 rfl) ?_
  refine lv_iload_n hx hb dL_law_419 rfl (lv_at hl 0 rfl) ?_
  refine lv_iconst (v := 2) hx hb dL_law_420 (by decide) ?_
  refine lv_iadd hx hb dL_law_421 ?_
  refine r_vi (y := 2) (by decide) ?_
  refine r_sld X hX hbl h (v := xs 2) (vp_lit (by decide +kernel)) rfl dL_law_422 ?_
  refine r_vi (y := i) e2 ?_
  refine k_i X h [0] [1, 2] (wr := [(y, .inr (7, [.ref y_refused, .ref y_document, .int 0, .int 0, .ref y_variables, .int 0, .ref y_nodes, .ref y_node, .ref y_master, .ref y_isSet, .ref y_setMany, .ref y_setFrom, .ref y_setUsed, .ref y_setText, .ref y_atStop, .ref y_isFresh, .ref y_then, .ref y_choiceMany, .ref y_choiceFrom, .ref y_choiceLong, .ref y_choiceBytes, .int 0, .ref y_text, .int 0, .int 0, .int 0, .int 0, .ref y_open, .int 0, .ref y_shown, .int 0, .int 0, .ref y_nextNode, .ref y_endNode, .ref y_made, .ref y_beganAt, .ref y_ofNode, .ref y_isOwn, .int 0, .ref y_begin, .ref y_size, .ref y_holding, .int 0, .ref y_kept, .int 0])), (y_refused, .inl (g.2 1, 3, .inl (fun _ => 0)))]) rfl rfl rfl (by decide) 973 728835 (Nat.le_of_ble_eq_true rfl) (Nat.le_of_ble_eq_true rfl) (k_runV X h (As := [.int c, .int i]) (rest := []) (c6_stop_hi l g H.size x tx lk pa nO dO c i h1 h2 h3) cw_L_72 [0] rfl rfl 0 kl6 rfl rfl rfl (Nat.le_of_ble_eq_true rfl) (Nat.le_of_ble_eq_true rfl) rfl hl.1 rfl (Nat.le_of_ble_eq_true rfl) dL_law_423 (Nat.le_of_ble_eq_true rfl) (Nat.le_of_ble_eq_true rfl)) (fun _ H locs h => ?_)
  have h : ST g (LA s) s [(y, .inr (7, [.ref y_refused, .ref y_document, .int 0, .int 0, .ref y_variables, .int 0, .ref y_nodes, .ref y_node, .ref y_master, .ref y_isSet, .ref y_setMany, .ref y_setFrom, .ref y_setUsed, .ref y_setText, .ref y_atStop, .ref y_isFresh, .ref y_then, .ref y_choiceMany, .ref y_choiceFrom, .ref y_choiceLong, .ref y_choiceBytes, .int 0, .ref y_text, .int 0, .int 0, .int 0, .int 0, .ref y_open, .int 0, .ref y_shown, .int 0, .int 0, .ref y_nextNode, .ref y_endNode, .ref y_made, .ref y_beganAt, .ref y_ofNode, .ref y_isOwn, .int 0, .ref y_begin, .ref y_size, .ref y_holding, .int 0, .ref y_kept, .int 0])), (y_refused, .inl (g.2 1, 3, .inl (fun _ => 0)))] H locs := h
  refine lv_aload_n hx hb dL_law_426 rfl (lv_at hl 1 rfl) ?_
  refine lv_aload_n hx hb dL_law_427 rfl (lv_at hl 3 rfl) ?_
  refine lv_iload_n hx hb dL_law_428 rfl (lv_at hl 0 rfl) ?_
  refine lv_iconst (v := 1) hx hb dL_law_429 (by decide) ?_
  refine lv_iadd hx hb dL_law_430 ?_
  refine r_vi (y := 1) (by decide) ?_
  refine r_sld X hX hbl h (v := xs 1) (vp_lit (by decide +kernel)) rfl dL_law_431 ?_
  refine r_vi (y := c) e1 ?_
  refine lv_aload_n hx hb dL_law_432 rfl (lv_at hl 3 rfl) ?_
  refine lv_iload_n hx hb dL_law_433 rfl (lv_at hl 0 rfl) ?_
  refine lv_iconst (v := 2) hx hb dL_law_434 (by decide) ?_
  refine lv_iadd hx hb dL_law_435 ?_
  refine r_vi (y := 2) (by decide) ?_
  refine r_sld X hX hbl h (v := xs 2) (vp_lit (by decide +kernel)) rfl dL_law_436 ?_
  refine r_vi (y := i) e2 ?_
  refine k_i X h [0, 1] [] (wr := []) rfl rfl rfl (by decide) 973 728835 (Nat.le_of_ble_eq_true rfl) (Nat.le_of_ble_eq_true rfl) (k_runV X h (As := [.int c, .int i]) (rest := [.int (-2)]) (c7_stop_hi l g H.size y y_refused y_document y_variables y_nodes y_node y_master y_isSet y_setMany y_setFrom y_setUsed y_setText y_atStop y_isFresh y_then y_choiceMany y_choiceFrom y_choiceLong y_choiceBytes y_text y_open y_shown y_nextNode y_endNode y_made y_beganAt y_ofNode y_isOwn y_begin y_size y_holding y_kept c i h1 h2 h3) cw_L_75 [0, 1] rfl rfl 0 kl7 rfl rfl rfl (Nat.le_of_ble_eq_true rfl) (Nat.le_of_ble_eq_true rfl) rfl hl.1 rfl (Nat.le_of_ble_eq_true rfl) dL_law_437 (Nat.le_of_ble_eq_true rfl) (Nat.le_of_ble_eq_true rfl)) (fun _ H locs h => ?_)
  have h : ST g (LA s) s [] H locs := h
  refine lv_icmp_eq (tgt := 660) hx hb dL_law_440 (by decide) (fun c_1 => ?_) (fun c_1 => absurd (by decide) c_1)
  exact law_tail X hX hbl h (lv_sub hl [0, 3] rfl) (Nat.le_of_ble_eq_true rfl) (Nat.le_of_ble_eq_true rfl)

set_option maxHeartbeats 4000000 in
set_option maxRecDepth 100000 in
theorem lw_stop_wlo {nm : String} {g : GE} {pp : Program} {l : Launch} {ee : Env} {s : State} {m : MethodId} {bb : List Frame} {mm : Method} {cd : Code} {bs : Nat} {xs : Nat → Int32} {H : Heap} {locs : List Loc} {ls : Array Slot} (X : CX g pp s m mm cd #[Value.ref bs] cL_law 4 RL nm ret (LA s)) (hX : va_X bs 4 xs s s.heap) (hbl : bs < s.heap.size) {y x tx lk pa nO dO y_refused y_document y_variables y_nodes y_node y_master y_isSet y_setMany y_setFrom y_setUsed y_setText y_atStop y_isFresh y_then y_choiceMany y_choiceFrom y_choiceLong y_choiceBytes y_text y_open y_shown y_nextNode y_endNode y_made y_beganAt y_ofNode y_isOwn y_begin y_size y_holding y_kept : Nat} (h : ST g (LA s) s [(x, .inr (6, [.ref tx, .ref lk, .ref pa, .int 0, .ref nO, .ref dO, .int 0, .int 0, .int 0])), (y, .inr (7, [.ref y_refused, .ref y_document, .int 0, .int 0, .ref y_variables, .int 0, .ref y_nodes, .ref y_node, .ref y_master, .ref y_isSet, .ref y_setMany, .ref y_setFrom, .ref y_setUsed, .ref y_setText, .ref y_atStop, .ref y_isFresh, .ref y_then, .ref y_choiceMany, .ref y_choiceFrom, .ref y_choiceLong, .ref y_choiceBytes, .int 0, .ref y_text, .int 0, .int 0, .int 0, .int 0, .ref y_open, .int 0, .ref y_shown, .int 0, .int 0, .ref y_nextNode, .ref y_endNode, .ref y_made, .ref y_beganAt, .ref y_ofNode, .ref y_isOwn, .int 0, .ref y_begin, .ref y_size, .ref y_holding, .int 0, .ref y_kept, .int 0])), (y_refused, .inl (g.2 1, 3, .inl (fun _ => 0)))] H locs) (hl : lv_has ls 4 [(3, .int 0), (2, .ref y), (1, .ref x), (0, .ref bs)]) {c : Int32} {i : Int32} (e1 : xs 1 = c) (e2 : xs 2 = i) (h1 : ¬ c < 0) (h2 : ¬ 9 < c) (h3 : ¬ 10 ≤ c) (h4 : i < 0) : W pp l ee room_1 s m #[Value.ref bs] bb mm cd H locs 973 728835 (lw_Z bb #[Value.ref bs] s) (F0 m 412 ls []) := by
  have hx := X.1
  have hb := X.2.1
  refine lv_aload_n hx hb dL_law_412 rfl (lv_at hl 2 rfl) ?_
  refine lv_aload_n hx hb dL_law_413 rfl (lv_at hl 3 rfl) ?_
  refine lv_iload_n hx hb dL_law_414 rfl (lv_at hl 0 rfl) ?_
  refine lv_iconst (v := 1) hx hb dL_law_415 (by decide) ?_
  refine lv_iadd hx hb dL_law_416 ?_
  refine r_vi (y := 1) (by decide) ?_
  refine r_sld X hX hbl h (v := xs 1) (vp_lit (by decide +kernel)) rfl dL_law_417 ?_
  refine r_vi (y := c) e1 ?_
  refine lv_aload_n hx hb dL_law_418 rfl (lv_at hl 3 rfl) ?_
  refine lv_iload_n hx hb dL_law_419 rfl (lv_at hl 0 rfl) ?_
  refine lv_iconst (v := 2) hx hb dL_law_420 (by decide) ?_
  refine lv_iadd hx hb dL_law_421 ?_
  refine r_vi (y := 2) (by decide) ?_
  refine r_sld X hX hbl h (v := xs 2) (vp_lit (by decide +kernel)) rfl dL_law_422 ?_
  refine r_vi (y := i) e2 ?_
  refine k_i X h [0] [1, 2] (wr := [(y, .inr (7, [.ref y_refused, .ref y_document, .int 0, .int 0, .ref y_variables, .int 0, .ref y_nodes, .ref y_node, .ref y_master, .ref y_isSet, .ref y_setMany, .ref y_setFrom, .ref y_setUsed, .ref y_setText, .ref y_atStop, .ref y_isFresh, .ref y_then, .ref y_choiceMany, .ref y_choiceFrom, .ref y_choiceLong, .ref y_choiceBytes, .int 0, .ref y_text, .int 0, .int 0, .int 0, .int 0, .ref y_open, .int 0, .ref y_shown, .int 0, .int 0, .ref y_nextNode, .ref y_endNode, .ref y_made, .ref y_beganAt, .ref y_ofNode, .ref y_isOwn, .int 0, .ref y_begin, .ref y_size, .ref y_holding, .int 0, .ref y_kept, .int 0])), (y_refused, .inl (g.2 1, 3, .inl (fun _ => 0)))]) rfl rfl rfl (by decide) 973 728835 (Nat.le_of_ble_eq_true rfl) (Nat.le_of_ble_eq_true rfl) (k_runV X h (As := [.int c, .int i]) (rest := []) (c6_stop_wlo l g H.size x tx lk pa nO dO c i h1 h2 h3 h4) cw_L_72 [0] rfl rfl 0 kl6 rfl rfl rfl (Nat.le_of_ble_eq_true rfl) (Nat.le_of_ble_eq_true rfl) rfl hl.1 rfl (Nat.le_of_ble_eq_true rfl) dL_law_423 (Nat.le_of_ble_eq_true rfl) (Nat.le_of_ble_eq_true rfl)) (fun _ H locs h => ?_)
  have h : ST g (LA s) s [(y, .inr (7, [.ref y_refused, .ref y_document, .int 0, .int 0, .ref y_variables, .int 0, .ref y_nodes, .ref y_node, .ref y_master, .ref y_isSet, .ref y_setMany, .ref y_setFrom, .ref y_setUsed, .ref y_setText, .ref y_atStop, .ref y_isFresh, .ref y_then, .ref y_choiceMany, .ref y_choiceFrom, .ref y_choiceLong, .ref y_choiceBytes, .int 0, .ref y_text, .int 0, .int 0, .int 0, .int 0, .ref y_open, .int 0, .ref y_shown, .int 0, .int 0, .ref y_nextNode, .ref y_endNode, .ref y_made, .ref y_beganAt, .ref y_ofNode, .ref y_isOwn, .int 0, .ref y_begin, .ref y_size, .ref y_holding, .int 0, .ref y_kept, .int 0])), (y_refused, .inl (g.2 1, 3, .inl (fun _ => 0)))] H locs := h
  refine lv_aload_n hx hb dL_law_426 rfl (lv_at hl 1 rfl) ?_
  refine lv_aload_n hx hb dL_law_427 rfl (lv_at hl 3 rfl) ?_
  refine lv_iload_n hx hb dL_law_428 rfl (lv_at hl 0 rfl) ?_
  refine lv_iconst (v := 1) hx hb dL_law_429 (by decide) ?_
  refine lv_iadd hx hb dL_law_430 ?_
  refine r_vi (y := 1) (by decide) ?_
  refine r_sld X hX hbl h (v := xs 1) (vp_lit (by decide +kernel)) rfl dL_law_431 ?_
  refine r_vi (y := c) e1 ?_
  refine lv_aload_n hx hb dL_law_432 rfl (lv_at hl 3 rfl) ?_
  refine lv_iload_n hx hb dL_law_433 rfl (lv_at hl 0 rfl) ?_
  refine lv_iconst (v := 2) hx hb dL_law_434 (by decide) ?_
  refine lv_iadd hx hb dL_law_435 ?_
  refine r_vi (y := 2) (by decide) ?_
  refine r_sld X hX hbl h (v := xs 2) (vp_lit (by decide +kernel)) rfl dL_law_436 ?_
  refine r_vi (y := i) e2 ?_
  refine k_i X h [0, 1] [] (wr := []) rfl rfl rfl (by decide) 973 728835 (Nat.le_of_ble_eq_true rfl) (Nat.le_of_ble_eq_true rfl) (k_runV X h (As := [.int c, .int i]) (rest := [.int (-2)]) (c7_stop_wlo l g H.size y y_refused y_document y_variables y_nodes y_node y_master y_isSet y_setMany y_setFrom y_setUsed y_setText y_atStop y_isFresh y_then y_choiceMany y_choiceFrom y_choiceLong y_choiceBytes y_text y_open y_shown y_nextNode y_endNode y_made y_beganAt y_ofNode y_isOwn y_begin y_size y_holding y_kept c i h1 h2 h3 h4) cw_L_75 [0, 1] rfl rfl 0 kl7 rfl rfl rfl (Nat.le_of_ble_eq_true rfl) (Nat.le_of_ble_eq_true rfl) rfl hl.1 rfl (Nat.le_of_ble_eq_true rfl) dL_law_437 (Nat.le_of_ble_eq_true rfl) (Nat.le_of_ble_eq_true rfl)) (fun _ H locs h => ?_)
  have h : ST g (LA s) s [] H locs := h
  refine lv_icmp_eq (tgt := 660) hx hb dL_law_440 (by decide) (fun c_1 => ?_) (fun c_1 => absurd (by decide) c_1)
  exact law_tail X hX hbl h (lv_sub hl [0, 3] rfl) (Nat.le_of_ble_eq_true rfl) (Nat.le_of_ble_eq_true rfl)

set_option maxHeartbeats 4000000 in
set_option maxRecDepth 100000 in
theorem lw_stop_whi {nm : String} {g : GE} {pp : Program} {l : Launch} {ee : Env} {s : State} {m : MethodId} {bb : List Frame} {mm : Method} {cd : Code} {bs : Nat} {xs : Nat → Int32} {H : Heap} {locs : List Loc} {ls : Array Slot} (X : CX g pp s m mm cd #[Value.ref bs] cL_law 4 RL nm ret (LA s)) (hX : va_X bs 4 xs s s.heap) (hbl : bs < s.heap.size) {y x tx lk pa nO dO y_refused y_document y_variables y_nodes y_node y_master y_isSet y_setMany y_setFrom y_setUsed y_setText y_atStop y_isFresh y_then y_choiceMany y_choiceFrom y_choiceLong y_choiceBytes y_text y_open y_shown y_nextNode y_endNode y_made y_beganAt y_ofNode y_isOwn y_begin y_size y_holding y_kept : Nat} (h : ST g (LA s) s [(x, .inr (6, [.ref tx, .ref lk, .ref pa, .int 0, .ref nO, .ref dO, .int 0, .int 0, .int 0])), (y, .inr (7, [.ref y_refused, .ref y_document, .int 0, .int 0, .ref y_variables, .int 0, .ref y_nodes, .ref y_node, .ref y_master, .ref y_isSet, .ref y_setMany, .ref y_setFrom, .ref y_setUsed, .ref y_setText, .ref y_atStop, .ref y_isFresh, .ref y_then, .ref y_choiceMany, .ref y_choiceFrom, .ref y_choiceLong, .ref y_choiceBytes, .int 0, .ref y_text, .int 0, .int 0, .int 0, .int 0, .ref y_open, .int 0, .ref y_shown, .int 0, .int 0, .ref y_nextNode, .ref y_endNode, .ref y_made, .ref y_beganAt, .ref y_ofNode, .ref y_isOwn, .int 0, .ref y_begin, .ref y_size, .ref y_holding, .int 0, .ref y_kept, .int 0])), (y_refused, .inl (g.2 1, 3, .inl (fun _ => 0)))] H locs) (hl : lv_has ls 4 [(3, .int 0), (2, .ref y), (1, .ref x), (0, .ref bs)]) {c : Int32} {i : Int32} (e1 : xs 1 = c) (e2 : xs 2 = i) (h1 : ¬ c < 0) (h2 : ¬ 9 < c) (h3 : ¬ 10 ≤ c) (h4 : ¬ i < 0) (h5 : 4 < i) : W pp l ee room_1 s m #[Value.ref bs] bb mm cd H locs 973 728835 (lw_Z bb #[Value.ref bs] s) (F0 m 412 ls []) := by
  have hx := X.1
  have hb := X.2.1
  refine lv_aload_n hx hb dL_law_412 rfl (lv_at hl 2 rfl) ?_
  refine lv_aload_n hx hb dL_law_413 rfl (lv_at hl 3 rfl) ?_
  refine lv_iload_n hx hb dL_law_414 rfl (lv_at hl 0 rfl) ?_
  refine lv_iconst (v := 1) hx hb dL_law_415 (by decide) ?_
  refine lv_iadd hx hb dL_law_416 ?_
  refine r_vi (y := 1) (by decide) ?_
  refine r_sld X hX hbl h (v := xs 1) (vp_lit (by decide +kernel)) rfl dL_law_417 ?_
  refine r_vi (y := c) e1 ?_
  refine lv_aload_n hx hb dL_law_418 rfl (lv_at hl 3 rfl) ?_
  refine lv_iload_n hx hb dL_law_419 rfl (lv_at hl 0 rfl) ?_
  refine lv_iconst (v := 2) hx hb dL_law_420 (by decide) ?_
  refine lv_iadd hx hb dL_law_421 ?_
  refine r_vi (y := 2) (by decide) ?_
  refine r_sld X hX hbl h (v := xs 2) (vp_lit (by decide +kernel)) rfl dL_law_422 ?_
  refine r_vi (y := i) e2 ?_
  refine k_i X h [0] [1, 2] (wr := [(y, .inr (7, [.ref y_refused, .ref y_document, .int 0, .int 0, .ref y_variables, .int 0, .ref y_nodes, .ref y_node, .ref y_master, .ref y_isSet, .ref y_setMany, .ref y_setFrom, .ref y_setUsed, .ref y_setText, .ref y_atStop, .ref y_isFresh, .ref y_then, .ref y_choiceMany, .ref y_choiceFrom, .ref y_choiceLong, .ref y_choiceBytes, .int 0, .ref y_text, .int 0, .int 0, .int 0, .int 0, .ref y_open, .int 0, .ref y_shown, .int 0, .int 0, .ref y_nextNode, .ref y_endNode, .ref y_made, .ref y_beganAt, .ref y_ofNode, .ref y_isOwn, .int 0, .ref y_begin, .ref y_size, .ref y_holding, .int 0, .ref y_kept, .int 0])), (y_refused, .inl (g.2 1, 3, .inl (fun _ => 0)))]) rfl rfl rfl (by decide) 973 728835 (Nat.le_of_ble_eq_true rfl) (Nat.le_of_ble_eq_true rfl) (k_runV X h (As := [.int c, .int i]) (rest := []) (c6_stop_whi l g H.size x tx lk pa nO dO c i h1 h2 h3 h4 h5) cw_L_72 [0] rfl rfl 0 kl6 rfl rfl rfl (Nat.le_of_ble_eq_true rfl) (Nat.le_of_ble_eq_true rfl) rfl hl.1 rfl (Nat.le_of_ble_eq_true rfl) dL_law_423 (Nat.le_of_ble_eq_true rfl) (Nat.le_of_ble_eq_true rfl)) (fun _ H locs h => ?_)
  have h : ST g (LA s) s [(y, .inr (7, [.ref y_refused, .ref y_document, .int 0, .int 0, .ref y_variables, .int 0, .ref y_nodes, .ref y_node, .ref y_master, .ref y_isSet, .ref y_setMany, .ref y_setFrom, .ref y_setUsed, .ref y_setText, .ref y_atStop, .ref y_isFresh, .ref y_then, .ref y_choiceMany, .ref y_choiceFrom, .ref y_choiceLong, .ref y_choiceBytes, .int 0, .ref y_text, .int 0, .int 0, .int 0, .int 0, .ref y_open, .int 0, .ref y_shown, .int 0, .int 0, .ref y_nextNode, .ref y_endNode, .ref y_made, .ref y_beganAt, .ref y_ofNode, .ref y_isOwn, .int 0, .ref y_begin, .ref y_size, .ref y_holding, .int 0, .ref y_kept, .int 0])), (y_refused, .inl (g.2 1, 3, .inl (fun _ => 0)))] H locs := h
  refine lv_aload_n hx hb dL_law_426 rfl (lv_at hl 1 rfl) ?_
  refine lv_aload_n hx hb dL_law_427 rfl (lv_at hl 3 rfl) ?_
  refine lv_iload_n hx hb dL_law_428 rfl (lv_at hl 0 rfl) ?_
  refine lv_iconst (v := 1) hx hb dL_law_429 (by decide) ?_
  refine lv_iadd hx hb dL_law_430 ?_
  refine r_vi (y := 1) (by decide) ?_
  refine r_sld X hX hbl h (v := xs 1) (vp_lit (by decide +kernel)) rfl dL_law_431 ?_
  refine r_vi (y := c) e1 ?_
  refine lv_aload_n hx hb dL_law_432 rfl (lv_at hl 3 rfl) ?_
  refine lv_iload_n hx hb dL_law_433 rfl (lv_at hl 0 rfl) ?_
  refine lv_iconst (v := 2) hx hb dL_law_434 (by decide) ?_
  refine lv_iadd hx hb dL_law_435 ?_
  refine r_vi (y := 2) (by decide) ?_
  refine r_sld X hX hbl h (v := xs 2) (vp_lit (by decide +kernel)) rfl dL_law_436 ?_
  refine r_vi (y := i) e2 ?_
  refine k_i X h [0, 1] [] (wr := []) rfl rfl rfl (by decide) 973 728835 (Nat.le_of_ble_eq_true rfl) (Nat.le_of_ble_eq_true rfl) (k_runV X h (As := [.int c, .int i]) (rest := [.int (-2)]) (c7_stop_whi l g H.size y y_refused y_document y_variables y_nodes y_node y_master y_isSet y_setMany y_setFrom y_setUsed y_setText y_atStop y_isFresh y_then y_choiceMany y_choiceFrom y_choiceLong y_choiceBytes y_text y_open y_shown y_nextNode y_endNode y_made y_beganAt y_ofNode y_isOwn y_begin y_size y_holding y_kept c i h1 h2 h3 h4 h5) cw_L_75 [0, 1] rfl rfl 0 kl7 rfl rfl rfl (Nat.le_of_ble_eq_true rfl) (Nat.le_of_ble_eq_true rfl) rfl hl.1 rfl (Nat.le_of_ble_eq_true rfl) dL_law_437 (Nat.le_of_ble_eq_true rfl) (Nat.le_of_ble_eq_true rfl)) (fun _ H locs h => ?_)
  have h : ST g (LA s) s [] H locs := h
  refine lv_icmp_eq (tgt := 660) hx hb dL_law_440 (by decide) (fun c_1 => ?_) (fun c_1 => absurd (by decide) c_1)
  exact law_tail X hX hbl h (lv_sub hl [0, 3] rfl) (Nat.le_of_ble_eq_true rfl) (Nat.le_of_ble_eq_true rfl)

set_option maxHeartbeats 4000000 in
set_option maxRecDepth 100000 in
theorem lw_stop_ok {nm : String} {g : GE} {pp : Program} {l : Launch} {ee : Env} {s : State} {m : MethodId} {bb : List Frame} {mm : Method} {cd : Code} {bs : Nat} {xs : Nat → Int32} {H : Heap} {locs : List Loc} {ls : Array Slot} (X : CX g pp s m mm cd #[Value.ref bs] cL_law 4 RL nm ret (LA s)) (hX : va_X bs 4 xs s s.heap) (hbl : bs < s.heap.size) {y x tx lk pa nO dO np nv ns nsh y_refused y_document y_variables y_nodes y_node y_master y_isSet y_setMany y_setFrom y_setUsed y_setText y_atStop y_isFresh y_then y_choiceMany y_choiceFrom y_choiceLong y_choiceBytes y_text y_open y_shown y_nextNode y_endNode y_made y_beganAt y_ofNode y_isOwn y_begin y_size y_holding y_kept : Nat} (h : ST g (LA s) s [(x, .inr (6, [.ref tx, .ref lk, .ref pa, .int 0, .ref nO, .ref dO, .int 0, .int 0, .int 0])), (nO, .inr (4, [.ref np, .int 0, .ref nv, .ref ns, .int 0, .ref nsh])), (y, .inr (7, [.ref y_refused, .ref y_document, .int 0, .int 0, .ref y_variables, .int 0, .ref y_nodes, .ref y_node, .ref y_master, .ref y_isSet, .ref y_setMany, .ref y_setFrom, .ref y_setUsed, .ref y_setText, .ref y_atStop, .ref y_isFresh, .ref y_then, .ref y_choiceMany, .ref y_choiceFrom, .ref y_choiceLong, .ref y_choiceBytes, .int 0, .ref y_text, .int 0, .int 0, .int 0, .int 0, .ref y_open, .int 0, .ref y_shown, .int 0, .int 0, .ref y_nextNode, .ref y_endNode, .ref y_made, .ref y_beganAt, .ref y_ofNode, .ref y_isOwn, .int 0, .ref y_begin, .ref y_size, .ref y_holding, .int 0, .ref y_kept, .int 0])), (y_refused, .inl (g.2 1, 3, .inl (fun _ => 0)))] H locs) (hl : lv_has ls 4 [(3, .int 0), (2, .ref y), (1, .ref x), (0, .ref bs)]) {c : Int32} {i : Int32} (e1 : xs 1 = c) (e2 : xs 2 = i) (h1 : ¬ c < 0) (h2 : ¬ 9 < c) (h3 : ¬ 10 ≤ c) (h4 : ¬ i < 0) (h5 : ¬ 4 < i) : W pp l ee room_1 s m #[Value.ref bs] bb mm cd H locs 973 728835 (lw_Z bb #[Value.ref bs] s) (F0 m 412 ls []) := by
  have hx := X.1
  have hb := X.2.1
  refine lv_aload_n hx hb dL_law_412 rfl (lv_at hl 2 rfl) ?_
  refine lv_aload_n hx hb dL_law_413 rfl (lv_at hl 3 rfl) ?_
  refine lv_iload_n hx hb dL_law_414 rfl (lv_at hl 0 rfl) ?_
  refine lv_iconst (v := 1) hx hb dL_law_415 (by decide) ?_
  refine lv_iadd hx hb dL_law_416 ?_
  refine r_vi (y := 1) (by decide) ?_
  refine r_sld X hX hbl h (v := xs 1) (vp_lit (by decide +kernel)) rfl dL_law_417 ?_
  refine r_vi (y := c) e1 ?_
  refine lv_aload_n hx hb dL_law_418 rfl (lv_at hl 3 rfl) ?_
  refine lv_iload_n hx hb dL_law_419 rfl (lv_at hl 0 rfl) ?_
  refine lv_iconst (v := 2) hx hb dL_law_420 (by decide) ?_
  refine lv_iadd hx hb dL_law_421 ?_
  refine r_vi (y := 2) (by decide) ?_
  refine r_sld X hX hbl h (v := xs 2) (vp_lit (by decide +kernel)) rfl dL_law_422 ?_
  refine r_vi (y := i) e2 ?_
  refine k_i X h [0, 1] [2, 3] (wr := [(y, .inr (7, [.ref y_refused, .ref y_document, .int 0, .int 0, .ref y_variables, .int 0, .ref y_nodes, .ref y_node, .ref y_master, .ref y_isSet, .ref y_setMany, .ref y_setFrom, .ref y_setUsed, .ref y_setText, .ref y_atStop, .ref y_isFresh, .ref y_then, .ref y_choiceMany, .ref y_choiceFrom, .ref y_choiceLong, .ref y_choiceBytes, .int 0, .ref y_text, .int 0, .int 0, .int 0, .int 0, .ref y_open, .int 0, .ref y_shown, .int 0, .int 0, .ref y_nextNode, .ref y_endNode, .ref y_made, .ref y_beganAt, .ref y_ofNode, .ref y_isOwn, .int 0, .ref y_begin, .ref y_size, .ref y_holding, .int 0, .ref y_kept, .int 0])), (y_refused, .inl (g.2 1, 3, .inl (fun _ => 0)))]) rfl rfl rfl (by decide) 973 728835 (Nat.le_of_ble_eq_true rfl) (Nat.le_of_ble_eq_true rfl) (k_runV X h (As := [.int c, .int i]) (rest := []) (c6_stop_ok l g H.size x tx lk pa nO dO np nv ns nsh c i h1 h2 h3 h4 h5) cw_L_72 [0, 1] rfl rfl 0 kl6 rfl rfl rfl (Nat.le_of_ble_eq_true rfl) (Nat.le_of_ble_eq_true rfl) rfl hl.1 rfl (Nat.le_of_ble_eq_true rfl) dL_law_423 (Nat.le_of_ble_eq_true rfl) (Nat.le_of_ble_eq_true rfl)) (fun _ H locs h => ?_)
  have h : ST g (LA s) s [(y, .inr (7, [.ref y_refused, .ref y_document, .int 0, .int 0, .ref y_variables, .int 0, .ref y_nodes, .ref y_node, .ref y_master, .ref y_isSet, .ref y_setMany, .ref y_setFrom, .ref y_setUsed, .ref y_setText, .ref y_atStop, .ref y_isFresh, .ref y_then, .ref y_choiceMany, .ref y_choiceFrom, .ref y_choiceLong, .ref y_choiceBytes, .int 0, .ref y_text, .int 0, .int 0, .int 0, .int 0, .ref y_open, .int 0, .ref y_shown, .int 0, .int 0, .ref y_nextNode, .ref y_endNode, .ref y_made, .ref y_beganAt, .ref y_ofNode, .ref y_isOwn, .int 0, .ref y_begin, .ref y_size, .ref y_holding, .int 0, .ref y_kept, .int 0])), (y_refused, .inl (g.2 1, 3, .inl (fun _ => 0)))] H locs := h
  refine lv_aload_n hx hb dL_law_426 rfl (lv_at hl 1 rfl) ?_
  refine lv_aload_n hx hb dL_law_427 rfl (lv_at hl 3 rfl) ?_
  refine lv_iload_n hx hb dL_law_428 rfl (lv_at hl 0 rfl) ?_
  refine lv_iconst (v := 1) hx hb dL_law_429 (by decide) ?_
  refine lv_iadd hx hb dL_law_430 ?_
  refine r_vi (y := 1) (by decide) ?_
  refine r_sld X hX hbl h (v := xs 1) (vp_lit (by decide +kernel)) rfl dL_law_431 ?_
  refine r_vi (y := c) e1 ?_
  refine lv_aload_n hx hb dL_law_432 rfl (lv_at hl 3 rfl) ?_
  refine lv_iload_n hx hb dL_law_433 rfl (lv_at hl 0 rfl) ?_
  refine lv_iconst (v := 2) hx hb dL_law_434 (by decide) ?_
  refine lv_iadd hx hb dL_law_435 ?_
  refine r_vi (y := 2) (by decide) ?_
  refine r_sld X hX hbl h (v := xs 2) (vp_lit (by decide +kernel)) rfl dL_law_436 ?_
  refine r_vi (y := i) e2 ?_
  refine k_i X h [0, 1] [] (wr := []) rfl rfl rfl (by decide) 973 728835 (Nat.le_of_ble_eq_true rfl) (Nat.le_of_ble_eq_true rfl) (k_runV X h (As := [.int c, .int i]) (rest := [.int (-3)]) (c7_stop_ok l g H.size y y_refused y_document y_variables y_nodes y_node y_master y_isSet y_setMany y_setFrom y_setUsed y_setText y_atStop y_isFresh y_then y_choiceMany y_choiceFrom y_choiceLong y_choiceBytes y_text y_open y_shown y_nextNode y_endNode y_made y_beganAt y_ofNode y_isOwn y_begin y_size y_holding y_kept c i h1 h2 h3 h4 h5) cw_L_75 [0, 1] rfl rfl 0 kl7 rfl rfl rfl (Nat.le_of_ble_eq_true rfl) (Nat.le_of_ble_eq_true rfl) rfl hl.1 rfl (Nat.le_of_ble_eq_true rfl) dL_law_437 (Nat.le_of_ble_eq_true rfl) (Nat.le_of_ble_eq_true rfl)) (fun _ H locs h => ?_)
  have h : ST g (LA s) s [] H locs := h
  refine lv_icmp_eq (tgt := 660) hx hb dL_law_440 (by decide) (fun c_1 => ?_) (fun c_1 => absurd (by decide) c_1)
  exact law_tail X hX hbl h (lv_sub hl [0, 3] rfl) (Nat.le_of_ble_eq_true rfl) (Nat.le_of_ble_eq_true rfl)

set_option maxHeartbeats 4000000 in
set_option maxRecDepth 100000 in
theorem lw_held_lo {nm : String} {g : GE} {pp : Program} {l : Launch} {ee : Env} {s : State} {m : MethodId} {bb : List Frame} {mm : Method} {cd : Code} {bs : Nat} {xs : Nat → Int32} {H : Heap} {locs : List Loc} {ls : Array Slot} (X : CX g pp s m mm cd #[Value.ref bs] cL_law 4 RL nm ret (LA s)) (hX : va_X bs 4 xs s s.heap) (hbl : bs < s.heap.size) {y x tx lk pa nO dO y_refused y_document y_variables y_nodes y_node y_master y_isSet y_setMany y_setFrom y_setUsed y_setText y_atStop y_isFresh y_then y_choiceMany y_choiceFrom y_choiceLong y_choiceBytes y_text y_open y_shown y_nextNode y_endNode y_made y_beganAt y_ofNode y_isOwn y_begin y_size y_holding y_kept : Nat} (h : ST g (LA s) s [(x, .inr (6, [.ref tx, .ref lk, .ref pa, .int 0, .ref nO, .ref dO, .int 0, .int 0, .int 0])), (y, .inr (7, [.ref y_refused, .ref y_document, .int 0, .int 0, .ref y_variables, .int 0, .ref y_nodes, .ref y_node, .ref y_master, .ref y_isSet, .ref y_setMany, .ref y_setFrom, .ref y_setUsed, .ref y_setText, .ref y_atStop, .ref y_isFresh, .ref y_then, .ref y_choiceMany, .ref y_choiceFrom, .ref y_choiceLong, .ref y_choiceBytes, .int 0, .ref y_text, .int 0, .int 0, .int 0, .int 0, .ref y_open, .int 0, .ref y_shown, .int 0, .int 0, .ref y_nextNode, .ref y_endNode, .ref y_made, .ref y_beganAt, .ref y_ofNode, .ref y_isOwn, .int 0, .ref y_begin, .ref y_size, .ref y_holding, .int 0, .ref y_kept, .int 0])), (y_refused, .inl (g.2 1, 3, .inl (fun _ => 0)))] H locs) (hl : lv_has ls 4 [(3, .int 0), (2, .ref y), (1, .ref x), (0, .ref bs)]) {c : Int32} {i : Int32} (e1 : xs 1 = c) (e2 : xs 2 = i) (h1 : c < 0) : W pp l ee room_1 s m #[Value.ref bs] bb mm cd H locs 973 728835 (lw_Z bb #[Value.ref bs] s) (F0 m 445 ls []) := by
  have hx := X.1
  have hb := X.2.1
  refine lv_aload_n hx hb dL_law_445 rfl (lv_at hl 2 rfl) ?_
  refine lv_aload_n hx hb dL_law_446 rfl (lv_at hl 3 rfl) ?_
  refine lv_iload_n hx hb dL_law_447 rfl (lv_at hl 0 rfl) ?_
  refine lv_iconst (v := 1) hx hb dL_law_448 (by decide) ?_
  refine lv_iadd hx hb dL_law_449 ?_
  refine r_vi (y := 1) (by decide) ?_
  refine r_sld X hX hbl h (v := xs 1) (vp_lit (by decide +kernel)) rfl dL_law_450 ?_
  refine r_vi (y := c) e1 ?_
  refine lv_aload_n hx hb dL_law_451 rfl (lv_at hl 3 rfl) ?_
  refine lv_iload_n hx hb dL_law_452 rfl (lv_at hl 0 rfl) ?_
  refine lv_iconst (v := 2) hx hb dL_law_453 (by decide) ?_
  refine lv_iadd hx hb dL_law_454 ?_
  refine r_vi (y := 2) (by decide) ?_
  refine r_sld X hX hbl h (v := xs 2) (vp_lit (by decide +kernel)) rfl dL_law_455 ?_
  refine r_vi (y := i) e2 ?_
  refine k_i X h [0] [1, 2] (wr := [(y, .inr (7, [.ref y_refused, .ref y_document, .int 0, .int 0, .ref y_variables, .int 0, .ref y_nodes, .ref y_node, .ref y_master, .ref y_isSet, .ref y_setMany, .ref y_setFrom, .ref y_setUsed, .ref y_setText, .ref y_atStop, .ref y_isFresh, .ref y_then, .ref y_choiceMany, .ref y_choiceFrom, .ref y_choiceLong, .ref y_choiceBytes, .int 0, .ref y_text, .int 0, .int 0, .int 0, .int 0, .ref y_open, .int 0, .ref y_shown, .int 0, .int 0, .ref y_nextNode, .ref y_endNode, .ref y_made, .ref y_beganAt, .ref y_ofNode, .ref y_isOwn, .int 0, .ref y_begin, .ref y_size, .ref y_holding, .int 0, .ref y_kept, .int 0])), (y_refused, .inl (g.2 1, 3, .inl (fun _ => 0)))]) rfl rfl rfl (by decide) 973 728835 (Nat.le_of_ble_eq_true rfl) (Nat.le_of_ble_eq_true rfl) (k_runV X h (As := [.int c, .int i]) (rest := []) (c6_held_lo l g H.size x tx lk pa nO dO c i h1) cw_L_76 [0] rfl rfl 0 kl6 rfl rfl rfl (Nat.le_of_ble_eq_true rfl) (Nat.le_of_ble_eq_true rfl) rfl hl.1 rfl (Nat.le_of_ble_eq_true rfl) dL_law_456 (Nat.le_of_ble_eq_true rfl) (Nat.le_of_ble_eq_true rfl)) (fun _ H locs h => ?_)
  have h : ST g (LA s) s [(y, .inr (7, [.ref y_refused, .ref y_document, .int 0, .int 0, .ref y_variables, .int 0, .ref y_nodes, .ref y_node, .ref y_master, .ref y_isSet, .ref y_setMany, .ref y_setFrom, .ref y_setUsed, .ref y_setText, .ref y_atStop, .ref y_isFresh, .ref y_then, .ref y_choiceMany, .ref y_choiceFrom, .ref y_choiceLong, .ref y_choiceBytes, .int 0, .ref y_text, .int 0, .int 0, .int 0, .int 0, .ref y_open, .int 0, .ref y_shown, .int 0, .int 0, .ref y_nextNode, .ref y_endNode, .ref y_made, .ref y_beganAt, .ref y_ofNode, .ref y_isOwn, .int 0, .ref y_begin, .ref y_size, .ref y_holding, .int 0, .ref y_kept, .int 0])), (y_refused, .inl (g.2 1, 3, .inl (fun _ => 0)))] H locs := h
  refine lv_aload_n hx hb dL_law_459 rfl (lv_at hl 1 rfl) ?_
  refine lv_aload_n hx hb dL_law_460 rfl (lv_at hl 3 rfl) ?_
  refine lv_iload_n hx hb dL_law_461 rfl (lv_at hl 0 rfl) ?_
  refine lv_iconst (v := 1) hx hb dL_law_462 (by decide) ?_
  refine lv_iadd hx hb dL_law_463 ?_
  refine r_vi (y := 1) (by decide) ?_
  refine r_sld X hX hbl h (v := xs 1) (vp_lit (by decide +kernel)) rfl dL_law_464 ?_
  refine r_vi (y := c) e1 ?_
  refine lv_aload_n hx hb dL_law_465 rfl (lv_at hl 3 rfl) ?_
  refine lv_iload_n hx hb dL_law_466 rfl (lv_at hl 0 rfl) ?_
  refine lv_iconst (v := 2) hx hb dL_law_467 (by decide) ?_
  refine lv_iadd hx hb dL_law_468 ?_
  refine r_vi (y := 2) (by decide) ?_
  refine r_sld X hX hbl h (v := xs 2) (vp_lit (by decide +kernel)) rfl dL_law_469 ?_
  refine r_vi (y := i) e2 ?_
  refine k_i X h [0, 1] [] (wr := []) rfl rfl rfl (by decide) 973 728835 (Nat.le_of_ble_eq_true rfl) (Nat.le_of_ble_eq_true rfl) (k_runV X h (As := [.int c, .int i]) (rest := [.int (-2)]) (c7_held_lo l g H.size y y_refused y_document y_variables y_nodes y_node y_master y_isSet y_setMany y_setFrom y_setUsed y_setText y_atStop y_isFresh y_then y_choiceMany y_choiceFrom y_choiceLong y_choiceBytes y_text y_open y_shown y_nextNode y_endNode y_made y_beganAt y_ofNode y_isOwn y_begin y_size y_holding y_kept c i h1) cw_L_79 [0, 1] rfl rfl 0 kl7 rfl rfl rfl (Nat.le_of_ble_eq_true rfl) (Nat.le_of_ble_eq_true rfl) rfl hl.1 rfl (Nat.le_of_ble_eq_true rfl) dL_law_470 (Nat.le_of_ble_eq_true rfl) (Nat.le_of_ble_eq_true rfl)) (fun _ H locs h => ?_)
  have h : ST g (LA s) s [] H locs := h
  refine lv_icmp_eq (tgt := 660) hx hb dL_law_473 (by decide) (fun c_1 => ?_) (fun c_1 => absurd (by decide) c_1)
  exact law_tail X hX hbl h (lv_sub hl [0, 3] rfl) (Nat.le_of_ble_eq_true rfl) (Nat.le_of_ble_eq_true rfl)

set_option maxHeartbeats 4000000 in
set_option maxRecDepth 100000 in
theorem lw_held_hi {nm : String} {g : GE} {pp : Program} {l : Launch} {ee : Env} {s : State} {m : MethodId} {bb : List Frame} {mm : Method} {cd : Code} {bs : Nat} {xs : Nat → Int32} {H : Heap} {locs : List Loc} {ls : Array Slot} (X : CX g pp s m mm cd #[Value.ref bs] cL_law 4 RL nm ret (LA s)) (hX : va_X bs 4 xs s s.heap) (hbl : bs < s.heap.size) {y x tx lk pa nO dO y_refused y_document y_variables y_nodes y_node y_master y_isSet y_setMany y_setFrom y_setUsed y_setText y_atStop y_isFresh y_then y_choiceMany y_choiceFrom y_choiceLong y_choiceBytes y_text y_open y_shown y_nextNode y_endNode y_made y_beganAt y_ofNode y_isOwn y_begin y_size y_holding y_kept : Nat} (h : ST g (LA s) s [(x, .inr (6, [.ref tx, .ref lk, .ref pa, .int 0, .ref nO, .ref dO, .int 0, .int 0, .int 0])), (y, .inr (7, [.ref y_refused, .ref y_document, .int 0, .int 0, .ref y_variables, .int 0, .ref y_nodes, .ref y_node, .ref y_master, .ref y_isSet, .ref y_setMany, .ref y_setFrom, .ref y_setUsed, .ref y_setText, .ref y_atStop, .ref y_isFresh, .ref y_then, .ref y_choiceMany, .ref y_choiceFrom, .ref y_choiceLong, .ref y_choiceBytes, .int 0, .ref y_text, .int 0, .int 0, .int 0, .int 0, .ref y_open, .int 0, .ref y_shown, .int 0, .int 0, .ref y_nextNode, .ref y_endNode, .ref y_made, .ref y_beganAt, .ref y_ofNode, .ref y_isOwn, .int 0, .ref y_begin, .ref y_size, .ref y_holding, .int 0, .ref y_kept, .int 0])), (y_refused, .inl (g.2 1, 3, .inl (fun _ => 0)))] H locs) (hl : lv_has ls 4 [(3, .int 0), (2, .ref y), (1, .ref x), (0, .ref bs)]) {c : Int32} {i : Int32} (e1 : xs 1 = c) (e2 : xs 2 = i) (h1 : ¬ c < 0) (h2 : 9 < c) (h3 : 10 ≤ c) : W pp l ee room_1 s m #[Value.ref bs] bb mm cd H locs 973 728835 (lw_Z bb #[Value.ref bs] s) (F0 m 445 ls []) := by
  have hx := X.1
  have hb := X.2.1
  refine lv_aload_n hx hb dL_law_445 rfl (lv_at hl 2 rfl) ?_
  refine lv_aload_n hx hb dL_law_446 rfl (lv_at hl 3 rfl) ?_
  refine lv_iload_n hx hb dL_law_447 rfl (lv_at hl 0 rfl) ?_
  refine lv_iconst (v := 1) hx hb dL_law_448 (by decide) ?_
  refine lv_iadd hx hb dL_law_449 ?_
  refine r_vi (y := 1) (by decide) ?_
  refine r_sld X hX hbl h (v := xs 1) (vp_lit (by decide +kernel)) rfl dL_law_450 ?_
  refine r_vi (y := c) e1 ?_
  refine lv_aload_n hx hb dL_law_451 rfl (lv_at hl 3 rfl) ?_
  refine lv_iload_n hx hb dL_law_452 rfl (lv_at hl 0 rfl) ?_
  refine lv_iconst (v := 2) hx hb dL_law_453 (by decide) ?_
  refine lv_iadd hx hb dL_law_454 ?_
  refine r_vi (y := 2) (by decide) ?_
  refine r_sld X hX hbl h (v := xs 2) (vp_lit (by decide +kernel)) rfl dL_law_455 ?_
  refine r_vi (y := i) e2 ?_
  refine k_i X h [0] [1, 2] (wr := [(y, .inr (7, [.ref y_refused, .ref y_document, .int 0, .int 0, .ref y_variables, .int 0, .ref y_nodes, .ref y_node, .ref y_master, .ref y_isSet, .ref y_setMany, .ref y_setFrom, .ref y_setUsed, .ref y_setText, .ref y_atStop, .ref y_isFresh, .ref y_then, .ref y_choiceMany, .ref y_choiceFrom, .ref y_choiceLong, .ref y_choiceBytes, .int 0, .ref y_text, .int 0, .int 0, .int 0, .int 0, .ref y_open, .int 0, .ref y_shown, .int 0, .int 0, .ref y_nextNode, .ref y_endNode, .ref y_made, .ref y_beganAt, .ref y_ofNode, .ref y_isOwn, .int 0, .ref y_begin, .ref y_size, .ref y_holding, .int 0, .ref y_kept, .int 0])), (y_refused, .inl (g.2 1, 3, .inl (fun _ => 0)))]) rfl rfl rfl (by decide) 973 728835 (Nat.le_of_ble_eq_true rfl) (Nat.le_of_ble_eq_true rfl) (k_runV X h (As := [.int c, .int i]) (rest := []) (c6_held_hi l g H.size x tx lk pa nO dO c i h1 h2 h3) cw_L_76 [0] rfl rfl 0 kl6 rfl rfl rfl (Nat.le_of_ble_eq_true rfl) (Nat.le_of_ble_eq_true rfl) rfl hl.1 rfl (Nat.le_of_ble_eq_true rfl) dL_law_456 (Nat.le_of_ble_eq_true rfl) (Nat.le_of_ble_eq_true rfl)) (fun _ H locs h => ?_)
  have h : ST g (LA s) s [(y, .inr (7, [.ref y_refused, .ref y_document, .int 0, .int 0, .ref y_variables, .int 0, .ref y_nodes, .ref y_node, .ref y_master, .ref y_isSet, .ref y_setMany, .ref y_setFrom, .ref y_setUsed, .ref y_setText, .ref y_atStop, .ref y_isFresh, .ref y_then, .ref y_choiceMany, .ref y_choiceFrom, .ref y_choiceLong, .ref y_choiceBytes, .int 0, .ref y_text, .int 0, .int 0, .int 0, .int 0, .ref y_open, .int 0, .ref y_shown, .int 0, .int 0, .ref y_nextNode, .ref y_endNode, .ref y_made, .ref y_beganAt, .ref y_ofNode, .ref y_isOwn, .int 0, .ref y_begin, .ref y_size, .ref y_holding, .int 0, .ref y_kept, .int 0])), (y_refused, .inl (g.2 1, 3, .inl (fun _ => 0)))] H locs := h
  refine lv_aload_n hx hb dL_law_459 rfl (lv_at hl 1 rfl) ?_
  refine lv_aload_n hx hb dL_law_460 rfl (lv_at hl 3 rfl) ?_
  refine lv_iload_n hx hb dL_law_461 rfl (lv_at hl 0 rfl) ?_
  refine lv_iconst (v := 1) hx hb dL_law_462 (by decide) ?_
  refine lv_iadd hx hb dL_law_463 ?_
  refine r_vi (y := 1) (by decide) ?_
  refine r_sld X hX hbl h (v := xs 1) (vp_lit (by decide +kernel)) rfl dL_law_464 ?_
  refine r_vi (y := c) e1 ?_
  refine lv_aload_n hx hb dL_law_465 rfl (lv_at hl 3 rfl) ?_
  refine lv_iload_n hx hb dL_law_466 rfl (lv_at hl 0 rfl) ?_
  refine lv_iconst (v := 2) hx hb dL_law_467 (by decide) ?_
  refine lv_iadd hx hb dL_law_468 ?_
  refine r_vi (y := 2) (by decide) ?_
  refine r_sld X hX hbl h (v := xs 2) (vp_lit (by decide +kernel)) rfl dL_law_469 ?_
  refine r_vi (y := i) e2 ?_
  refine k_i X h [0, 1] [] (wr := []) rfl rfl rfl (by decide) 973 728835 (Nat.le_of_ble_eq_true rfl) (Nat.le_of_ble_eq_true rfl) (k_runV X h (As := [.int c, .int i]) (rest := [.int (-2)]) (c7_held_hi l g H.size y y_refused y_document y_variables y_nodes y_node y_master y_isSet y_setMany y_setFrom y_setUsed y_setText y_atStop y_isFresh y_then y_choiceMany y_choiceFrom y_choiceLong y_choiceBytes y_text y_open y_shown y_nextNode y_endNode y_made y_beganAt y_ofNode y_isOwn y_begin y_size y_holding y_kept c i h1 h2 h3) cw_L_79 [0, 1] rfl rfl 0 kl7 rfl rfl rfl (Nat.le_of_ble_eq_true rfl) (Nat.le_of_ble_eq_true rfl) rfl hl.1 rfl (Nat.le_of_ble_eq_true rfl) dL_law_470 (Nat.le_of_ble_eq_true rfl) (Nat.le_of_ble_eq_true rfl)) (fun _ H locs h => ?_)
  have h : ST g (LA s) s [] H locs := h
  refine lv_icmp_eq (tgt := 660) hx hb dL_law_473 (by decide) (fun c_1 => ?_) (fun c_1 => absurd (by decide) c_1)
  exact law_tail X hX hbl h (lv_sub hl [0, 3] rfl) (Nat.le_of_ble_eq_true rfl) (Nat.le_of_ble_eq_true rfl)

set_option maxHeartbeats 4000000 in
set_option maxRecDepth 100000 in
theorem lw_held_ilo {nm : String} {g : GE} {pp : Program} {l : Launch} {ee : Env} {s : State} {m : MethodId} {bb : List Frame} {mm : Method} {cd : Code} {bs : Nat} {xs : Nat → Int32} {H : Heap} {locs : List Loc} {ls : Array Slot} (X : CX g pp s m mm cd #[Value.ref bs] cL_law 4 RL nm ret (LA s)) (hX : va_X bs 4 xs s s.heap) (hbl : bs < s.heap.size) {y x tx lk pa nO dO y_refused y_document y_variables y_nodes y_node y_master y_isSet y_setMany y_setFrom y_setUsed y_setText y_atStop y_isFresh y_then y_choiceMany y_choiceFrom y_choiceLong y_choiceBytes y_text y_open y_shown y_nextNode y_endNode y_made y_beganAt y_ofNode y_isOwn y_begin y_size y_holding y_kept : Nat} (h : ST g (LA s) s [(x, .inr (6, [.ref tx, .ref lk, .ref pa, .int 0, .ref nO, .ref dO, .int 0, .int 0, .int 0])), (y, .inr (7, [.ref y_refused, .ref y_document, .int 0, .int 0, .ref y_variables, .int 0, .ref y_nodes, .ref y_node, .ref y_master, .ref y_isSet, .ref y_setMany, .ref y_setFrom, .ref y_setUsed, .ref y_setText, .ref y_atStop, .ref y_isFresh, .ref y_then, .ref y_choiceMany, .ref y_choiceFrom, .ref y_choiceLong, .ref y_choiceBytes, .int 0, .ref y_text, .int 0, .int 0, .int 0, .int 0, .ref y_open, .int 0, .ref y_shown, .int 0, .int 0, .ref y_nextNode, .ref y_endNode, .ref y_made, .ref y_beganAt, .ref y_ofNode, .ref y_isOwn, .int 0, .ref y_begin, .ref y_size, .ref y_holding, .int 0, .ref y_kept, .int 0])), (y_refused, .inl (g.2 1, 3, .inl (fun _ => 0)))] H locs) (hl : lv_has ls 4 [(3, .int 0), (2, .ref y), (1, .ref x), (0, .ref bs)]) {c : Int32} {i : Int32} (e1 : xs 1 = c) (e2 : xs 2 = i) (h1 : ¬ c < 0) (h2 : ¬ 9 < c) (h3 : ¬ 10 ≤ c) (h4 : i < 0) : W pp l ee room_1 s m #[Value.ref bs] bb mm cd H locs 973 728835 (lw_Z bb #[Value.ref bs] s) (F0 m 445 ls []) := by
  have hx := X.1
  have hb := X.2.1
  refine lv_aload_n hx hb dL_law_445 rfl (lv_at hl 2 rfl) ?_
  refine lv_aload_n hx hb dL_law_446 rfl (lv_at hl 3 rfl) ?_
  refine lv_iload_n hx hb dL_law_447 rfl (lv_at hl 0 rfl) ?_
  refine lv_iconst (v := 1) hx hb dL_law_448 (by decide) ?_
  refine lv_iadd hx hb dL_law_449 ?_
  refine r_vi (y := 1) (by decide) ?_
  refine r_sld X hX hbl h (v := xs 1) (vp_lit (by decide +kernel)) rfl dL_law_450 ?_
  refine r_vi (y := c) e1 ?_
  refine lv_aload_n hx hb dL_law_451 rfl (lv_at hl 3 rfl) ?_
  refine lv_iload_n hx hb dL_law_452 rfl (lv_at hl 0 rfl) ?_
  refine lv_iconst (v := 2) hx hb dL_law_453 (by decide) ?_
  refine lv_iadd hx hb dL_law_454 ?_
  refine r_vi (y := 2) (by decide) ?_
  refine r_sld X hX hbl h (v := xs 2) (vp_lit (by decide +kernel)) rfl dL_law_455 ?_
  refine r_vi (y := i) e2 ?_
  refine k_i X h [0] [1, 2] (wr := [(y, .inr (7, [.ref y_refused, .ref y_document, .int 0, .int 0, .ref y_variables, .int 0, .ref y_nodes, .ref y_node, .ref y_master, .ref y_isSet, .ref y_setMany, .ref y_setFrom, .ref y_setUsed, .ref y_setText, .ref y_atStop, .ref y_isFresh, .ref y_then, .ref y_choiceMany, .ref y_choiceFrom, .ref y_choiceLong, .ref y_choiceBytes, .int 0, .ref y_text, .int 0, .int 0, .int 0, .int 0, .ref y_open, .int 0, .ref y_shown, .int 0, .int 0, .ref y_nextNode, .ref y_endNode, .ref y_made, .ref y_beganAt, .ref y_ofNode, .ref y_isOwn, .int 0, .ref y_begin, .ref y_size, .ref y_holding, .int 0, .ref y_kept, .int 0])), (y_refused, .inl (g.2 1, 3, .inl (fun _ => 0)))]) rfl rfl rfl (by decide) 973 728835 (Nat.le_of_ble_eq_true rfl) (Nat.le_of_ble_eq_true rfl) (k_runV X h (As := [.int c, .int i]) (rest := []) (c6_held_ilo l g H.size x tx lk pa nO dO c i h1 h2 h3 h4) cw_L_76 [0] rfl rfl 0 kl6 rfl rfl rfl (Nat.le_of_ble_eq_true rfl) (Nat.le_of_ble_eq_true rfl) rfl hl.1 rfl (Nat.le_of_ble_eq_true rfl) dL_law_456 (Nat.le_of_ble_eq_true rfl) (Nat.le_of_ble_eq_true rfl)) (fun _ H locs h => ?_)
  have h : ST g (LA s) s [(y, .inr (7, [.ref y_refused, .ref y_document, .int 0, .int 0, .ref y_variables, .int 0, .ref y_nodes, .ref y_node, .ref y_master, .ref y_isSet, .ref y_setMany, .ref y_setFrom, .ref y_setUsed, .ref y_setText, .ref y_atStop, .ref y_isFresh, .ref y_then, .ref y_choiceMany, .ref y_choiceFrom, .ref y_choiceLong, .ref y_choiceBytes, .int 0, .ref y_text, .int 0, .int 0, .int 0, .int 0, .ref y_open, .int 0, .ref y_shown, .int 0, .int 0, .ref y_nextNode, .ref y_endNode, .ref y_made, .ref y_beganAt, .ref y_ofNode, .ref y_isOwn, .int 0, .ref y_begin, .ref y_size, .ref y_holding, .int 0, .ref y_kept, .int 0])), (y_refused, .inl (g.2 1, 3, .inl (fun _ => 0)))] H locs := h
  refine lv_aload_n hx hb dL_law_459 rfl (lv_at hl 1 rfl) ?_
  refine lv_aload_n hx hb dL_law_460 rfl (lv_at hl 3 rfl) ?_
  refine lv_iload_n hx hb dL_law_461 rfl (lv_at hl 0 rfl) ?_
  refine lv_iconst (v := 1) hx hb dL_law_462 (by decide) ?_
  refine lv_iadd hx hb dL_law_463 ?_
  refine r_vi (y := 1) (by decide) ?_
  refine r_sld X hX hbl h (v := xs 1) (vp_lit (by decide +kernel)) rfl dL_law_464 ?_
  refine r_vi (y := c) e1 ?_
  refine lv_aload_n hx hb dL_law_465 rfl (lv_at hl 3 rfl) ?_
  refine lv_iload_n hx hb dL_law_466 rfl (lv_at hl 0 rfl) ?_
  refine lv_iconst (v := 2) hx hb dL_law_467 (by decide) ?_
  refine lv_iadd hx hb dL_law_468 ?_
  refine r_vi (y := 2) (by decide) ?_
  refine r_sld X hX hbl h (v := xs 2) (vp_lit (by decide +kernel)) rfl dL_law_469 ?_
  refine r_vi (y := i) e2 ?_
  refine k_i X h [0, 1] [] (wr := []) rfl rfl rfl (by decide) 973 728835 (Nat.le_of_ble_eq_true rfl) (Nat.le_of_ble_eq_true rfl) (k_runV X h (As := [.int c, .int i]) (rest := [.int (-2)]) (c7_held_ilo l g H.size y y_refused y_document y_variables y_nodes y_node y_master y_isSet y_setMany y_setFrom y_setUsed y_setText y_atStop y_isFresh y_then y_choiceMany y_choiceFrom y_choiceLong y_choiceBytes y_text y_open y_shown y_nextNode y_endNode y_made y_beganAt y_ofNode y_isOwn y_begin y_size y_holding y_kept c i h1 h2 h3 h4) cw_L_79 [0, 1] rfl rfl 0 kl7 rfl rfl rfl (Nat.le_of_ble_eq_true rfl) (Nat.le_of_ble_eq_true rfl) rfl hl.1 rfl (Nat.le_of_ble_eq_true rfl) dL_law_470 (Nat.le_of_ble_eq_true rfl) (Nat.le_of_ble_eq_true rfl)) (fun _ H locs h => ?_)
  have h : ST g (LA s) s [] H locs := h
  refine lv_icmp_eq (tgt := 660) hx hb dL_law_473 (by decide) (fun c_1 => ?_) (fun c_1 => absurd (by decide) c_1)
  exact law_tail X hX hbl h (lv_sub hl [0, 3] rfl) (Nat.le_of_ble_eq_true rfl) (Nat.le_of_ble_eq_true rfl)

set_option maxHeartbeats 4000000 in
set_option maxRecDepth 100000 in
theorem lw_held_ok {nm : String} {g : GE} {pp : Program} {l : Launch} {ee : Env} {s : State} {m : MethodId} {bb : List Frame} {mm : Method} {cd : Code} {bs : Nat} {xs : Nat → Int32} {H : Heap} {locs : List Loc} {ls : Array Slot} (X : CX g pp s m mm cd #[Value.ref bs] cL_law 4 RL nm ret (LA s)) (hX : va_X bs 4 xs s s.heap) (hbl : bs < s.heap.size) {y x tx lk pa nO dO np nv ns nsh y_refused y_document y_variables y_nodes y_node y_master y_isSet y_setMany y_setFrom y_setUsed y_setText y_atStop y_isFresh y_then y_choiceMany y_choiceFrom y_choiceLong y_choiceBytes y_text y_open y_shown y_nextNode y_endNode y_made y_beganAt y_ofNode y_isOwn y_begin y_size y_holding y_kept : Nat} (h : ST g (LA s) s [(x, .inr (6, [.ref tx, .ref lk, .ref pa, .int 0, .ref nO, .ref dO, .int 0, .int 0, .int 0])), (nO, .inr (4, [.ref np, .int 0, .ref nv, .ref ns, .int 0, .ref nsh])), (y, .inr (7, [.ref y_refused, .ref y_document, .int 0, .int 0, .ref y_variables, .int 0, .ref y_nodes, .ref y_node, .ref y_master, .ref y_isSet, .ref y_setMany, .ref y_setFrom, .ref y_setUsed, .ref y_setText, .ref y_atStop, .ref y_isFresh, .ref y_then, .ref y_choiceMany, .ref y_choiceFrom, .ref y_choiceLong, .ref y_choiceBytes, .int 0, .ref y_text, .int 0, .int 0, .int 0, .int 0, .ref y_open, .int 0, .ref y_shown, .int 0, .int 0, .ref y_nextNode, .ref y_endNode, .ref y_made, .ref y_beganAt, .ref y_ofNode, .ref y_isOwn, .int 0, .ref y_begin, .ref y_size, .ref y_holding, .int 0, .ref y_kept, .int 0])), (y_refused, .inl (g.2 1, 3, .inl (fun _ => 0)))] H locs) (hl : lv_has ls 4 [(3, .int 0), (2, .ref y), (1, .ref x), (0, .ref bs)]) {c : Int32} {i : Int32} (e1 : xs 1 = c) (e2 : xs 2 = i) (h1 : ¬ c < 0) (h2 : ¬ 9 < c) (h3 : ¬ 10 ≤ c) (h4 : ¬ i < 0) : W pp l ee room_1 s m #[Value.ref bs] bb mm cd H locs 973 728835 (lw_Z bb #[Value.ref bs] s) (F0 m 445 ls []) := by
  have hx := X.1
  have hb := X.2.1
  refine lv_aload_n hx hb dL_law_445 rfl (lv_at hl 2 rfl) ?_
  refine lv_aload_n hx hb dL_law_446 rfl (lv_at hl 3 rfl) ?_
  refine lv_iload_n hx hb dL_law_447 rfl (lv_at hl 0 rfl) ?_
  refine lv_iconst (v := 1) hx hb dL_law_448 (by decide) ?_
  refine lv_iadd hx hb dL_law_449 ?_
  refine r_vi (y := 1) (by decide) ?_
  refine r_sld X hX hbl h (v := xs 1) (vp_lit (by decide +kernel)) rfl dL_law_450 ?_
  refine r_vi (y := c) e1 ?_
  refine lv_aload_n hx hb dL_law_451 rfl (lv_at hl 3 rfl) ?_
  refine lv_iload_n hx hb dL_law_452 rfl (lv_at hl 0 rfl) ?_
  refine lv_iconst (v := 2) hx hb dL_law_453 (by decide) ?_
  refine lv_iadd hx hb dL_law_454 ?_
  refine r_vi (y := 2) (by decide) ?_
  refine r_sld X hX hbl h (v := xs 2) (vp_lit (by decide +kernel)) rfl dL_law_455 ?_
  refine r_vi (y := i) e2 ?_
  refine k_i X h [0, 1] [2, 3] (wr := [(y, .inr (7, [.ref y_refused, .ref y_document, .int 0, .int 0, .ref y_variables, .int 0, .ref y_nodes, .ref y_node, .ref y_master, .ref y_isSet, .ref y_setMany, .ref y_setFrom, .ref y_setUsed, .ref y_setText, .ref y_atStop, .ref y_isFresh, .ref y_then, .ref y_choiceMany, .ref y_choiceFrom, .ref y_choiceLong, .ref y_choiceBytes, .int 0, .ref y_text, .int 0, .int 0, .int 0, .int 0, .ref y_open, .int 0, .ref y_shown, .int 0, .int 0, .ref y_nextNode, .ref y_endNode, .ref y_made, .ref y_beganAt, .ref y_ofNode, .ref y_isOwn, .int 0, .ref y_begin, .ref y_size, .ref y_holding, .int 0, .ref y_kept, .int 0])), (y_refused, .inl (g.2 1, 3, .inl (fun _ => 0)))]) rfl rfl rfl (by decide) 973 728835 (Nat.le_of_ble_eq_true rfl) (Nat.le_of_ble_eq_true rfl) (k_runV X h (As := [.int c, .int i]) (rest := []) (c6_held_ok l g H.size x tx lk pa nO dO np nv ns nsh c i h1 h2 h3 h4) cw_L_76 [0, 1] rfl rfl 0 kl6 rfl rfl rfl (Nat.le_of_ble_eq_true rfl) (Nat.le_of_ble_eq_true rfl) rfl hl.1 rfl (Nat.le_of_ble_eq_true rfl) dL_law_456 (Nat.le_of_ble_eq_true rfl) (Nat.le_of_ble_eq_true rfl)) (fun _ H locs h => ?_)
  have h : ST g (LA s) s [(y, .inr (7, [.ref y_refused, .ref y_document, .int 0, .int 0, .ref y_variables, .int 0, .ref y_nodes, .ref y_node, .ref y_master, .ref y_isSet, .ref y_setMany, .ref y_setFrom, .ref y_setUsed, .ref y_setText, .ref y_atStop, .ref y_isFresh, .ref y_then, .ref y_choiceMany, .ref y_choiceFrom, .ref y_choiceLong, .ref y_choiceBytes, .int 0, .ref y_text, .int 0, .int 0, .int 0, .int 0, .ref y_open, .int 0, .ref y_shown, .int 0, .int 0, .ref y_nextNode, .ref y_endNode, .ref y_made, .ref y_beganAt, .ref y_ofNode, .ref y_isOwn, .int 0, .ref y_begin, .ref y_size, .ref y_holding, .int 0, .ref y_kept, .int 0])), (y_refused, .inl (g.2 1, 3, .inl (fun _ => 0)))] H locs := h
  refine lv_aload_n hx hb dL_law_459 rfl (lv_at hl 1 rfl) ?_
  refine lv_aload_n hx hb dL_law_460 rfl (lv_at hl 3 rfl) ?_
  refine lv_iload_n hx hb dL_law_461 rfl (lv_at hl 0 rfl) ?_
  refine lv_iconst (v := 1) hx hb dL_law_462 (by decide) ?_
  refine lv_iadd hx hb dL_law_463 ?_
  refine r_vi (y := 1) (by decide) ?_
  refine r_sld X hX hbl h (v := xs 1) (vp_lit (by decide +kernel)) rfl dL_law_464 ?_
  refine r_vi (y := c) e1 ?_
  refine lv_aload_n hx hb dL_law_465 rfl (lv_at hl 3 rfl) ?_
  refine lv_iload_n hx hb dL_law_466 rfl (lv_at hl 0 rfl) ?_
  refine lv_iconst (v := 2) hx hb dL_law_467 (by decide) ?_
  refine lv_iadd hx hb dL_law_468 ?_
  refine r_vi (y := 2) (by decide) ?_
  refine r_sld X hX hbl h (v := xs 2) (vp_lit (by decide +kernel)) rfl dL_law_469 ?_
  refine r_vi (y := i) e2 ?_
  refine k_i X h [0, 1] [] (wr := []) rfl rfl rfl (by decide) 973 728835 (Nat.le_of_ble_eq_true rfl) (Nat.le_of_ble_eq_true rfl) (k_runV X h (As := [.int c, .int i]) (rest := [.int (-3)]) (c7_held_ok l g H.size y y_refused y_document y_variables y_nodes y_node y_master y_isSet y_setMany y_setFrom y_setUsed y_setText y_atStop y_isFresh y_then y_choiceMany y_choiceFrom y_choiceLong y_choiceBytes y_text y_open y_shown y_nextNode y_endNode y_made y_beganAt y_ofNode y_isOwn y_begin y_size y_holding y_kept c i h1 h2 h3 h4) cw_L_79 [0, 1] rfl rfl 0 kl7 rfl rfl rfl (Nat.le_of_ble_eq_true rfl) (Nat.le_of_ble_eq_true rfl) rfl hl.1 rfl (Nat.le_of_ble_eq_true rfl) dL_law_470 (Nat.le_of_ble_eq_true rfl) (Nat.le_of_ble_eq_true rfl)) (fun _ H locs h => ?_)
  have h : ST g (LA s) s [] H locs := h
  refine lv_icmp_eq (tgt := 660) hx hb dL_law_473 (by decide) (fun c_1 => ?_) (fun c_1 => absurd (by decide) c_1)
  exact law_tail X hX hbl h (lv_sub hl [0, 3] rfl) (Nat.le_of_ble_eq_true rfl) (Nat.le_of_ble_eq_true rfl)

set_option maxHeartbeats 4000000 in
set_option maxRecDepth 100000 in
theorem lw_choice_lo {nm : String} {g : GE} {pp : Program} {l : Launch} {ee : Env} {s : State} {m : MethodId} {bb : List Frame} {mm : Method} {cd : Code} {bs : Nat} {xs : Nat → Int32} {H : Heap} {locs : List Loc} {ls : Array Slot} (X : CX g pp s m mm cd #[Value.ref bs] cL_law 4 RL nm ret (LA s)) (hX : va_X bs 4 xs s s.heap) (hbl : bs < s.heap.size) {y x tx lk pa nO dO y_refused y_document y_variables y_nodes y_node y_master y_isSet y_setMany y_setFrom y_setUsed y_setText y_atStop y_isFresh y_then y_choiceMany y_choiceFrom y_choiceLong y_choiceBytes y_text y_open y_shown y_nextNode y_endNode y_made y_beganAt y_ofNode y_isOwn y_begin y_size y_holding y_kept : Nat} (h : ST g (LA s) s [(x, .inr (6, [.ref tx, .ref lk, .ref pa, .int 0, .ref nO, .ref dO, .int 0, .int 0, .int 0])), (y, .inr (7, [.ref y_refused, .ref y_document, .int 0, .int 0, .ref y_variables, .int 0, .ref y_nodes, .ref y_node, .ref y_master, .ref y_isSet, .ref y_setMany, .ref y_setFrom, .ref y_setUsed, .ref y_setText, .ref y_atStop, .ref y_isFresh, .ref y_then, .ref y_choiceMany, .ref y_choiceFrom, .ref y_choiceLong, .ref y_choiceBytes, .int 0, .ref y_text, .int 0, .int 0, .int 0, .int 0, .ref y_open, .int 0, .ref y_shown, .int 0, .int 0, .ref y_nextNode, .ref y_endNode, .ref y_made, .ref y_beganAt, .ref y_ofNode, .ref y_isOwn, .int 0, .ref y_begin, .ref y_size, .ref y_holding, .int 0, .ref y_kept, .int 0])), (y_refused, .inl (g.2 1, 3, .inl (fun _ => 0)))] H locs) (hl : lv_has ls 4 [(3, .int 0), (2, .ref y), (1, .ref x), (0, .ref bs)]) {c : Int32} {i : Int32} {j : Int32} (e1 : xs 1 = c) (e2 : xs 2 = i) (e3 : xs 3 = j) (h1 : c < 0) : W pp l ee room_1 s m #[Value.ref bs] bb mm cd H locs 973 728835 (lw_Z bb #[Value.ref bs] s) (F0 m 478 ls []) := by
  have hx := X.1
  have hb := X.2.1
  refine lv_aload_n hx hb dL_law_478 rfl (lv_at hl 2 rfl) ?_
  refine lv_aload_n hx hb dL_law_479 rfl (lv_at hl 3 rfl) ?_
  refine lv_iload_n hx hb dL_law_480 rfl (lv_at hl 0 rfl) ?_
  refine lv_iconst (v := 1) hx hb dL_law_481 (by decide) ?_
  refine lv_iadd hx hb dL_law_482 ?_
  refine r_vi (y := 1) (by decide) ?_
  refine r_sld X hX hbl h (v := xs 1) (vp_lit (by decide +kernel)) rfl dL_law_483 ?_
  refine r_vi (y := c) e1 ?_
  refine lv_aload_n hx hb dL_law_484 rfl (lv_at hl 3 rfl) ?_
  refine lv_iload_n hx hb dL_law_485 rfl (lv_at hl 0 rfl) ?_
  refine lv_iconst (v := 2) hx hb dL_law_486 (by decide) ?_
  refine lv_iadd hx hb dL_law_487 ?_
  refine r_vi (y := 2) (by decide) ?_
  refine r_sld X hX hbl h (v := xs 2) (vp_lit (by decide +kernel)) rfl dL_law_488 ?_
  refine r_vi (y := i) e2 ?_
  refine lv_aload_n hx hb dL_law_489 rfl (lv_at hl 3 rfl) ?_
  refine lv_iload_n hx hb dL_law_490 rfl (lv_at hl 0 rfl) ?_
  refine lv_iconst (v := 3) hx hb dL_law_491 (by decide) ?_
  refine lv_iadd hx hb dL_law_492 ?_
  refine r_vi (y := 3) (by decide) ?_
  refine r_sld X hX hbl h (v := xs 3) (vp_lit (by decide +kernel)) rfl dL_law_493 ?_
  refine r_vi (y := j) e3 ?_
  refine k_i X h [0] [1, 2] (wr := [(y, .inr (7, [.ref y_refused, .ref y_document, .int 0, .int 0, .ref y_variables, .int 0, .ref y_nodes, .ref y_node, .ref y_master, .ref y_isSet, .ref y_setMany, .ref y_setFrom, .ref y_setUsed, .ref y_setText, .ref y_atStop, .ref y_isFresh, .ref y_then, .ref y_choiceMany, .ref y_choiceFrom, .ref y_choiceLong, .ref y_choiceBytes, .int 0, .ref y_text, .int 0, .int 0, .int 0, .int 0, .ref y_open, .int 0, .ref y_shown, .int 0, .int 0, .ref y_nextNode, .ref y_endNode, .ref y_made, .ref y_beganAt, .ref y_ofNode, .ref y_isOwn, .int 0, .ref y_begin, .ref y_size, .ref y_holding, .int 0, .ref y_kept, .int 0])), (y_refused, .inl (g.2 1, 3, .inl (fun _ => 0)))]) rfl rfl rfl (by decide) 973 728835 (Nat.le_of_ble_eq_true rfl) (Nat.le_of_ble_eq_true rfl) (k_runV X h (As := [.int c, .int i, .int j]) (rest := []) (c6_choice_lo l g H.size x tx lk pa nO dO c i j h1) cw_L_80 [0] rfl rfl 0 kl6 rfl rfl rfl (Nat.le_of_ble_eq_true rfl) (Nat.le_of_ble_eq_true rfl) rfl hl.1 rfl (Nat.le_of_ble_eq_true rfl) dL_law_494 (Nat.le_of_ble_eq_true rfl) (Nat.le_of_ble_eq_true rfl)) (fun _ H locs h => ?_)
  have h : ST g (LA s) s [(y, .inr (7, [.ref y_refused, .ref y_document, .int 0, .int 0, .ref y_variables, .int 0, .ref y_nodes, .ref y_node, .ref y_master, .ref y_isSet, .ref y_setMany, .ref y_setFrom, .ref y_setUsed, .ref y_setText, .ref y_atStop, .ref y_isFresh, .ref y_then, .ref y_choiceMany, .ref y_choiceFrom, .ref y_choiceLong, .ref y_choiceBytes, .int 0, .ref y_text, .int 0, .int 0, .int 0, .int 0, .ref y_open, .int 0, .ref y_shown, .int 0, .int 0, .ref y_nextNode, .ref y_endNode, .ref y_made, .ref y_beganAt, .ref y_ofNode, .ref y_isOwn, .int 0, .ref y_begin, .ref y_size, .ref y_holding, .int 0, .ref y_kept, .int 0])), (y_refused, .inl (g.2 1, 3, .inl (fun _ => 0)))] H locs := h
  refine lv_aload_n hx hb dL_law_497 rfl (lv_at hl 1 rfl) ?_
  refine lv_aload_n hx hb dL_law_498 rfl (lv_at hl 3 rfl) ?_
  refine lv_iload_n hx hb dL_law_499 rfl (lv_at hl 0 rfl) ?_
  refine lv_iconst (v := 1) hx hb dL_law_500 (by decide) ?_
  refine lv_iadd hx hb dL_law_501 ?_
  refine r_vi (y := 1) (by decide) ?_
  refine r_sld X hX hbl h (v := xs 1) (vp_lit (by decide +kernel)) rfl dL_law_502 ?_
  refine r_vi (y := c) e1 ?_
  refine lv_aload_n hx hb dL_law_503 rfl (lv_at hl 3 rfl) ?_
  refine lv_iload_n hx hb dL_law_504 rfl (lv_at hl 0 rfl) ?_
  refine lv_iconst (v := 2) hx hb dL_law_505 (by decide) ?_
  refine lv_iadd hx hb dL_law_506 ?_
  refine r_vi (y := 2) (by decide) ?_
  refine r_sld X hX hbl h (v := xs 2) (vp_lit (by decide +kernel)) rfl dL_law_507 ?_
  refine r_vi (y := i) e2 ?_
  refine lv_aload_n hx hb dL_law_508 rfl (lv_at hl 3 rfl) ?_
  refine lv_iload_n hx hb dL_law_509 rfl (lv_at hl 0 rfl) ?_
  refine lv_iconst (v := 3) hx hb dL_law_510 (by decide) ?_
  refine lv_iadd hx hb dL_law_511 ?_
  refine r_vi (y := 3) (by decide) ?_
  refine r_sld X hX hbl h (v := xs 3) (vp_lit (by decide +kernel)) rfl dL_law_512 ?_
  refine r_vi (y := j) e3 ?_
  refine k_i X h [0, 1] [] (wr := []) rfl rfl rfl (by decide) 973 728835 (Nat.le_of_ble_eq_true rfl) (Nat.le_of_ble_eq_true rfl) (k_runV X h (As := [.int c, .int i, .int j]) (rest := [.int (-2)]) (c7_choice_lo l g H.size y y_refused y_document y_variables y_nodes y_node y_master y_isSet y_setMany y_setFrom y_setUsed y_setText y_atStop y_isFresh y_then y_choiceMany y_choiceFrom y_choiceLong y_choiceBytes y_text y_open y_shown y_nextNode y_endNode y_made y_beganAt y_ofNode y_isOwn y_begin y_size y_holding y_kept c i j h1) cw_L_84 [0, 1] rfl rfl 0 kl7 rfl rfl rfl (Nat.le_of_ble_eq_true rfl) (Nat.le_of_ble_eq_true rfl) rfl hl.1 rfl (Nat.le_of_ble_eq_true rfl) dL_law_513 (Nat.le_of_ble_eq_true rfl) (Nat.le_of_ble_eq_true rfl)) (fun _ H locs h => ?_)
  have h : ST g (LA s) s [] H locs := h
  refine lv_icmp_eq (tgt := 660) hx hb dL_law_516 (by decide) (fun c_1 => ?_) (fun c_1 => absurd (by decide) c_1)
  exact law_tail X hX hbl h (lv_sub hl [0, 3] rfl) (Nat.le_of_ble_eq_true rfl) (Nat.le_of_ble_eq_true rfl)

set_option maxHeartbeats 4000000 in
set_option maxRecDepth 100000 in
theorem lw_choice_hi {nm : String} {g : GE} {pp : Program} {l : Launch} {ee : Env} {s : State} {m : MethodId} {bb : List Frame} {mm : Method} {cd : Code} {bs : Nat} {xs : Nat → Int32} {H : Heap} {locs : List Loc} {ls : Array Slot} (X : CX g pp s m mm cd #[Value.ref bs] cL_law 4 RL nm ret (LA s)) (hX : va_X bs 4 xs s s.heap) (hbl : bs < s.heap.size) {y x tx lk pa nO dO y_refused y_document y_variables y_nodes y_node y_master y_isSet y_setMany y_setFrom y_setUsed y_setText y_atStop y_isFresh y_then y_choiceMany y_choiceFrom y_choiceLong y_choiceBytes y_text y_open y_shown y_nextNode y_endNode y_made y_beganAt y_ofNode y_isOwn y_begin y_size y_holding y_kept : Nat} (h : ST g (LA s) s [(x, .inr (6, [.ref tx, .ref lk, .ref pa, .int 0, .ref nO, .ref dO, .int 0, .int 0, .int 0])), (y, .inr (7, [.ref y_refused, .ref y_document, .int 0, .int 0, .ref y_variables, .int 0, .ref y_nodes, .ref y_node, .ref y_master, .ref y_isSet, .ref y_setMany, .ref y_setFrom, .ref y_setUsed, .ref y_setText, .ref y_atStop, .ref y_isFresh, .ref y_then, .ref y_choiceMany, .ref y_choiceFrom, .ref y_choiceLong, .ref y_choiceBytes, .int 0, .ref y_text, .int 0, .int 0, .int 0, .int 0, .ref y_open, .int 0, .ref y_shown, .int 0, .int 0, .ref y_nextNode, .ref y_endNode, .ref y_made, .ref y_beganAt, .ref y_ofNode, .ref y_isOwn, .int 0, .ref y_begin, .ref y_size, .ref y_holding, .int 0, .ref y_kept, .int 0])), (y_refused, .inl (g.2 1, 3, .inl (fun _ => 0)))] H locs) (hl : lv_has ls 4 [(3, .int 0), (2, .ref y), (1, .ref x), (0, .ref bs)]) {c : Int32} {i : Int32} {j : Int32} (e1 : xs 1 = c) (e2 : xs 2 = i) (e3 : xs 3 = j) (h1 : ¬ c < 0) (h2 : 9 < c) (h3 : 10 ≤ c) : W pp l ee room_1 s m #[Value.ref bs] bb mm cd H locs 973 728835 (lw_Z bb #[Value.ref bs] s) (F0 m 478 ls []) := by
  have hx := X.1
  have hb := X.2.1
  refine lv_aload_n hx hb dL_law_478 rfl (lv_at hl 2 rfl) ?_
  refine lv_aload_n hx hb dL_law_479 rfl (lv_at hl 3 rfl) ?_
  refine lv_iload_n hx hb dL_law_480 rfl (lv_at hl 0 rfl) ?_
  refine lv_iconst (v := 1) hx hb dL_law_481 (by decide) ?_
  refine lv_iadd hx hb dL_law_482 ?_
  refine r_vi (y := 1) (by decide) ?_
  refine r_sld X hX hbl h (v := xs 1) (vp_lit (by decide +kernel)) rfl dL_law_483 ?_
  refine r_vi (y := c) e1 ?_
  refine lv_aload_n hx hb dL_law_484 rfl (lv_at hl 3 rfl) ?_
  refine lv_iload_n hx hb dL_law_485 rfl (lv_at hl 0 rfl) ?_
  refine lv_iconst (v := 2) hx hb dL_law_486 (by decide) ?_
  refine lv_iadd hx hb dL_law_487 ?_
  refine r_vi (y := 2) (by decide) ?_
  refine r_sld X hX hbl h (v := xs 2) (vp_lit (by decide +kernel)) rfl dL_law_488 ?_
  refine r_vi (y := i) e2 ?_
  refine lv_aload_n hx hb dL_law_489 rfl (lv_at hl 3 rfl) ?_
  refine lv_iload_n hx hb dL_law_490 rfl (lv_at hl 0 rfl) ?_
  refine lv_iconst (v := 3) hx hb dL_law_491 (by decide) ?_
  refine lv_iadd hx hb dL_law_492 ?_
  refine r_vi (y := 3) (by decide) ?_
  refine r_sld X hX hbl h (v := xs 3) (vp_lit (by decide +kernel)) rfl dL_law_493 ?_
  refine r_vi (y := j) e3 ?_
  refine k_i X h [0] [1, 2] (wr := [(y, .inr (7, [.ref y_refused, .ref y_document, .int 0, .int 0, .ref y_variables, .int 0, .ref y_nodes, .ref y_node, .ref y_master, .ref y_isSet, .ref y_setMany, .ref y_setFrom, .ref y_setUsed, .ref y_setText, .ref y_atStop, .ref y_isFresh, .ref y_then, .ref y_choiceMany, .ref y_choiceFrom, .ref y_choiceLong, .ref y_choiceBytes, .int 0, .ref y_text, .int 0, .int 0, .int 0, .int 0, .ref y_open, .int 0, .ref y_shown, .int 0, .int 0, .ref y_nextNode, .ref y_endNode, .ref y_made, .ref y_beganAt, .ref y_ofNode, .ref y_isOwn, .int 0, .ref y_begin, .ref y_size, .ref y_holding, .int 0, .ref y_kept, .int 0])), (y_refused, .inl (g.2 1, 3, .inl (fun _ => 0)))]) rfl rfl rfl (by decide) 973 728835 (Nat.le_of_ble_eq_true rfl) (Nat.le_of_ble_eq_true rfl) (k_runV X h (As := [.int c, .int i, .int j]) (rest := []) (c6_choice_hi l g H.size x tx lk pa nO dO c i j h1 h2 h3) cw_L_80 [0] rfl rfl 0 kl6 rfl rfl rfl (Nat.le_of_ble_eq_true rfl) (Nat.le_of_ble_eq_true rfl) rfl hl.1 rfl (Nat.le_of_ble_eq_true rfl) dL_law_494 (Nat.le_of_ble_eq_true rfl) (Nat.le_of_ble_eq_true rfl)) (fun _ H locs h => ?_)
  have h : ST g (LA s) s [(y, .inr (7, [.ref y_refused, .ref y_document, .int 0, .int 0, .ref y_variables, .int 0, .ref y_nodes, .ref y_node, .ref y_master, .ref y_isSet, .ref y_setMany, .ref y_setFrom, .ref y_setUsed, .ref y_setText, .ref y_atStop, .ref y_isFresh, .ref y_then, .ref y_choiceMany, .ref y_choiceFrom, .ref y_choiceLong, .ref y_choiceBytes, .int 0, .ref y_text, .int 0, .int 0, .int 0, .int 0, .ref y_open, .int 0, .ref y_shown, .int 0, .int 0, .ref y_nextNode, .ref y_endNode, .ref y_made, .ref y_beganAt, .ref y_ofNode, .ref y_isOwn, .int 0, .ref y_begin, .ref y_size, .ref y_holding, .int 0, .ref y_kept, .int 0])), (y_refused, .inl (g.2 1, 3, .inl (fun _ => 0)))] H locs := h
  refine lv_aload_n hx hb dL_law_497 rfl (lv_at hl 1 rfl) ?_
  refine lv_aload_n hx hb dL_law_498 rfl (lv_at hl 3 rfl) ?_
  refine lv_iload_n hx hb dL_law_499 rfl (lv_at hl 0 rfl) ?_
  refine lv_iconst (v := 1) hx hb dL_law_500 (by decide) ?_
  refine lv_iadd hx hb dL_law_501 ?_
  refine r_vi (y := 1) (by decide) ?_
  refine r_sld X hX hbl h (v := xs 1) (vp_lit (by decide +kernel)) rfl dL_law_502 ?_
  refine r_vi (y := c) e1 ?_
  refine lv_aload_n hx hb dL_law_503 rfl (lv_at hl 3 rfl) ?_
  refine lv_iload_n hx hb dL_law_504 rfl (lv_at hl 0 rfl) ?_
  refine lv_iconst (v := 2) hx hb dL_law_505 (by decide) ?_
  refine lv_iadd hx hb dL_law_506 ?_
  refine r_vi (y := 2) (by decide) ?_
  refine r_sld X hX hbl h (v := xs 2) (vp_lit (by decide +kernel)) rfl dL_law_507 ?_
  refine r_vi (y := i) e2 ?_
  refine lv_aload_n hx hb dL_law_508 rfl (lv_at hl 3 rfl) ?_
  refine lv_iload_n hx hb dL_law_509 rfl (lv_at hl 0 rfl) ?_
  refine lv_iconst (v := 3) hx hb dL_law_510 (by decide) ?_
  refine lv_iadd hx hb dL_law_511 ?_
  refine r_vi (y := 3) (by decide) ?_
  refine r_sld X hX hbl h (v := xs 3) (vp_lit (by decide +kernel)) rfl dL_law_512 ?_
  refine r_vi (y := j) e3 ?_
  refine k_i X h [0, 1] [] (wr := []) rfl rfl rfl (by decide) 973 728835 (Nat.le_of_ble_eq_true rfl) (Nat.le_of_ble_eq_true rfl) (k_runV X h (As := [.int c, .int i, .int j]) (rest := [.int (-2)]) (c7_choice_hi l g H.size y y_refused y_document y_variables y_nodes y_node y_master y_isSet y_setMany y_setFrom y_setUsed y_setText y_atStop y_isFresh y_then y_choiceMany y_choiceFrom y_choiceLong y_choiceBytes y_text y_open y_shown y_nextNode y_endNode y_made y_beganAt y_ofNode y_isOwn y_begin y_size y_holding y_kept c i j h1 h2 h3) cw_L_84 [0, 1] rfl rfl 0 kl7 rfl rfl rfl (Nat.le_of_ble_eq_true rfl) (Nat.le_of_ble_eq_true rfl) rfl hl.1 rfl (Nat.le_of_ble_eq_true rfl) dL_law_513 (Nat.le_of_ble_eq_true rfl) (Nat.le_of_ble_eq_true rfl)) (fun _ H locs h => ?_)
  have h : ST g (LA s) s [] H locs := h
  refine lv_icmp_eq (tgt := 660) hx hb dL_law_516 (by decide) (fun c_1 => ?_) (fun c_1 => absurd (by decide) c_1)
  exact law_tail X hX hbl h (lv_sub hl [0, 3] rfl) (Nat.le_of_ble_eq_true rfl) (Nat.le_of_ble_eq_true rfl)

set_option maxHeartbeats 4000000 in
set_option maxRecDepth 100000 in
theorem lw_choice_klo {nm : String} {g : GE} {pp : Program} {l : Launch} {ee : Env} {s : State} {m : MethodId} {bb : List Frame} {mm : Method} {cd : Code} {bs : Nat} {xs : Nat → Int32} {H : Heap} {locs : List Loc} {ls : Array Slot} (X : CX g pp s m mm cd #[Value.ref bs] cL_law 4 RL nm ret (LA s)) (hX : va_X bs 4 xs s s.heap) (hbl : bs < s.heap.size) {y x tx lk pa nO dO y_refused y_document y_variables y_nodes y_node y_master y_isSet y_setMany y_setFrom y_setUsed y_setText y_atStop y_isFresh y_then y_choiceMany y_choiceFrom y_choiceLong y_choiceBytes y_text y_open y_shown y_nextNode y_endNode y_made y_beganAt y_ofNode y_isOwn y_begin y_size y_holding y_kept : Nat} (h : ST g (LA s) s [(x, .inr (6, [.ref tx, .ref lk, .ref pa, .int 0, .ref nO, .ref dO, .int 0, .int 0, .int 0])), (y, .inr (7, [.ref y_refused, .ref y_document, .int 0, .int 0, .ref y_variables, .int 0, .ref y_nodes, .ref y_node, .ref y_master, .ref y_isSet, .ref y_setMany, .ref y_setFrom, .ref y_setUsed, .ref y_setText, .ref y_atStop, .ref y_isFresh, .ref y_then, .ref y_choiceMany, .ref y_choiceFrom, .ref y_choiceLong, .ref y_choiceBytes, .int 0, .ref y_text, .int 0, .int 0, .int 0, .int 0, .ref y_open, .int 0, .ref y_shown, .int 0, .int 0, .ref y_nextNode, .ref y_endNode, .ref y_made, .ref y_beganAt, .ref y_ofNode, .ref y_isOwn, .int 0, .ref y_begin, .ref y_size, .ref y_holding, .int 0, .ref y_kept, .int 0])), (y_refused, .inl (g.2 1, 3, .inl (fun _ => 0)))] H locs) (hl : lv_has ls 4 [(3, .int 0), (2, .ref y), (1, .ref x), (0, .ref bs)]) {c : Int32} {i : Int32} {j : Int32} (e1 : xs 1 = c) (e2 : xs 2 = i) (e3 : xs 3 = j) (h1 : ¬ c < 0) (h2 : ¬ 9 < c) (h3 : ¬ 10 ≤ c) (h4 : i < 0) : W pp l ee room_1 s m #[Value.ref bs] bb mm cd H locs 973 728835 (lw_Z bb #[Value.ref bs] s) (F0 m 478 ls []) := by
  have hx := X.1
  have hb := X.2.1
  refine lv_aload_n hx hb dL_law_478 rfl (lv_at hl 2 rfl) ?_
  refine lv_aload_n hx hb dL_law_479 rfl (lv_at hl 3 rfl) ?_
  refine lv_iload_n hx hb dL_law_480 rfl (lv_at hl 0 rfl) ?_
  refine lv_iconst (v := 1) hx hb dL_law_481 (by decide) ?_
  refine lv_iadd hx hb dL_law_482 ?_
  refine r_vi (y := 1) (by decide) ?_
  refine r_sld X hX hbl h (v := xs 1) (vp_lit (by decide +kernel)) rfl dL_law_483 ?_
  refine r_vi (y := c) e1 ?_
  refine lv_aload_n hx hb dL_law_484 rfl (lv_at hl 3 rfl) ?_
  refine lv_iload_n hx hb dL_law_485 rfl (lv_at hl 0 rfl) ?_
  refine lv_iconst (v := 2) hx hb dL_law_486 (by decide) ?_
  refine lv_iadd hx hb dL_law_487 ?_
  refine r_vi (y := 2) (by decide) ?_
  refine r_sld X hX hbl h (v := xs 2) (vp_lit (by decide +kernel)) rfl dL_law_488 ?_
  refine r_vi (y := i) e2 ?_
  refine lv_aload_n hx hb dL_law_489 rfl (lv_at hl 3 rfl) ?_
  refine lv_iload_n hx hb dL_law_490 rfl (lv_at hl 0 rfl) ?_
  refine lv_iconst (v := 3) hx hb dL_law_491 (by decide) ?_
  refine lv_iadd hx hb dL_law_492 ?_
  refine r_vi (y := 3) (by decide) ?_
  refine r_sld X hX hbl h (v := xs 3) (vp_lit (by decide +kernel)) rfl dL_law_493 ?_
  refine r_vi (y := j) e3 ?_
  refine k_i X h [0] [1, 2] (wr := [(y, .inr (7, [.ref y_refused, .ref y_document, .int 0, .int 0, .ref y_variables, .int 0, .ref y_nodes, .ref y_node, .ref y_master, .ref y_isSet, .ref y_setMany, .ref y_setFrom, .ref y_setUsed, .ref y_setText, .ref y_atStop, .ref y_isFresh, .ref y_then, .ref y_choiceMany, .ref y_choiceFrom, .ref y_choiceLong, .ref y_choiceBytes, .int 0, .ref y_text, .int 0, .int 0, .int 0, .int 0, .ref y_open, .int 0, .ref y_shown, .int 0, .int 0, .ref y_nextNode, .ref y_endNode, .ref y_made, .ref y_beganAt, .ref y_ofNode, .ref y_isOwn, .int 0, .ref y_begin, .ref y_size, .ref y_holding, .int 0, .ref y_kept, .int 0])), (y_refused, .inl (g.2 1, 3, .inl (fun _ => 0)))]) rfl rfl rfl (by decide) 973 728835 (Nat.le_of_ble_eq_true rfl) (Nat.le_of_ble_eq_true rfl) (k_runV X h (As := [.int c, .int i, .int j]) (rest := []) (c6_choice_klo l g H.size x tx lk pa nO dO c i j h1 h2 h3 h4) cw_L_80 [0] rfl rfl 0 kl6 rfl rfl rfl (Nat.le_of_ble_eq_true rfl) (Nat.le_of_ble_eq_true rfl) rfl hl.1 rfl (Nat.le_of_ble_eq_true rfl) dL_law_494 (Nat.le_of_ble_eq_true rfl) (Nat.le_of_ble_eq_true rfl)) (fun _ H locs h => ?_)
  have h : ST g (LA s) s [(y, .inr (7, [.ref y_refused, .ref y_document, .int 0, .int 0, .ref y_variables, .int 0, .ref y_nodes, .ref y_node, .ref y_master, .ref y_isSet, .ref y_setMany, .ref y_setFrom, .ref y_setUsed, .ref y_setText, .ref y_atStop, .ref y_isFresh, .ref y_then, .ref y_choiceMany, .ref y_choiceFrom, .ref y_choiceLong, .ref y_choiceBytes, .int 0, .ref y_text, .int 0, .int 0, .int 0, .int 0, .ref y_open, .int 0, .ref y_shown, .int 0, .int 0, .ref y_nextNode, .ref y_endNode, .ref y_made, .ref y_beganAt, .ref y_ofNode, .ref y_isOwn, .int 0, .ref y_begin, .ref y_size, .ref y_holding, .int 0, .ref y_kept, .int 0])), (y_refused, .inl (g.2 1, 3, .inl (fun _ => 0)))] H locs := h
  refine lv_aload_n hx hb dL_law_497 rfl (lv_at hl 1 rfl) ?_
  refine lv_aload_n hx hb dL_law_498 rfl (lv_at hl 3 rfl) ?_
  refine lv_iload_n hx hb dL_law_499 rfl (lv_at hl 0 rfl) ?_
  refine lv_iconst (v := 1) hx hb dL_law_500 (by decide) ?_
  refine lv_iadd hx hb dL_law_501 ?_
  refine r_vi (y := 1) (by decide) ?_
  refine r_sld X hX hbl h (v := xs 1) (vp_lit (by decide +kernel)) rfl dL_law_502 ?_
  refine r_vi (y := c) e1 ?_
  refine lv_aload_n hx hb dL_law_503 rfl (lv_at hl 3 rfl) ?_
  refine lv_iload_n hx hb dL_law_504 rfl (lv_at hl 0 rfl) ?_
  refine lv_iconst (v := 2) hx hb dL_law_505 (by decide) ?_
  refine lv_iadd hx hb dL_law_506 ?_
  refine r_vi (y := 2) (by decide) ?_
  refine r_sld X hX hbl h (v := xs 2) (vp_lit (by decide +kernel)) rfl dL_law_507 ?_
  refine r_vi (y := i) e2 ?_
  refine lv_aload_n hx hb dL_law_508 rfl (lv_at hl 3 rfl) ?_
  refine lv_iload_n hx hb dL_law_509 rfl (lv_at hl 0 rfl) ?_
  refine lv_iconst (v := 3) hx hb dL_law_510 (by decide) ?_
  refine lv_iadd hx hb dL_law_511 ?_
  refine r_vi (y := 3) (by decide) ?_
  refine r_sld X hX hbl h (v := xs 3) (vp_lit (by decide +kernel)) rfl dL_law_512 ?_
  refine r_vi (y := j) e3 ?_
  refine k_i X h [0, 1] [] (wr := []) rfl rfl rfl (by decide) 973 728835 (Nat.le_of_ble_eq_true rfl) (Nat.le_of_ble_eq_true rfl) (k_runV X h (As := [.int c, .int i, .int j]) (rest := [.int (-2)]) (c7_choice_klo l g H.size y y_refused y_document y_variables y_nodes y_node y_master y_isSet y_setMany y_setFrom y_setUsed y_setText y_atStop y_isFresh y_then y_choiceMany y_choiceFrom y_choiceLong y_choiceBytes y_text y_open y_shown y_nextNode y_endNode y_made y_beganAt y_ofNode y_isOwn y_begin y_size y_holding y_kept c i j h1 h2 h3 h4) cw_L_84 [0, 1] rfl rfl 0 kl7 rfl rfl rfl (Nat.le_of_ble_eq_true rfl) (Nat.le_of_ble_eq_true rfl) rfl hl.1 rfl (Nat.le_of_ble_eq_true rfl) dL_law_513 (Nat.le_of_ble_eq_true rfl) (Nat.le_of_ble_eq_true rfl)) (fun _ H locs h => ?_)
  have h : ST g (LA s) s [] H locs := h
  refine lv_icmp_eq (tgt := 660) hx hb dL_law_516 (by decide) (fun c_1 => ?_) (fun c_1 => absurd (by decide) c_1)
  exact law_tail X hX hbl h (lv_sub hl [0, 3] rfl) (Nat.le_of_ble_eq_true rfl) (Nat.le_of_ble_eq_true rfl)

set_option maxHeartbeats 4000000 in
set_option maxRecDepth 100000 in
theorem lw_choice_ilo {nm : String} {g : GE} {pp : Program} {l : Launch} {ee : Env} {s : State} {m : MethodId} {bb : List Frame} {mm : Method} {cd : Code} {bs : Nat} {xs : Nat → Int32} {H : Heap} {locs : List Loc} {ls : Array Slot} (X : CX g pp s m mm cd #[Value.ref bs] cL_law 4 RL nm ret (LA s)) (hX : va_X bs 4 xs s s.heap) (hbl : bs < s.heap.size) {y x tx lk pa nO dO y_refused y_document y_variables y_nodes y_node y_master y_isSet y_setMany y_setFrom y_setUsed y_setText y_atStop y_isFresh y_then y_choiceMany y_choiceFrom y_choiceLong y_choiceBytes y_text y_open y_shown y_nextNode y_endNode y_made y_beganAt y_ofNode y_isOwn y_begin y_size y_holding y_kept : Nat} (h : ST g (LA s) s [(x, .inr (6, [.ref tx, .ref lk, .ref pa, .int 0, .ref nO, .ref dO, .int 0, .int 0, .int 0])), (y, .inr (7, [.ref y_refused, .ref y_document, .int 0, .int 0, .ref y_variables, .int 0, .ref y_nodes, .ref y_node, .ref y_master, .ref y_isSet, .ref y_setMany, .ref y_setFrom, .ref y_setUsed, .ref y_setText, .ref y_atStop, .ref y_isFresh, .ref y_then, .ref y_choiceMany, .ref y_choiceFrom, .ref y_choiceLong, .ref y_choiceBytes, .int 0, .ref y_text, .int 0, .int 0, .int 0, .int 0, .ref y_open, .int 0, .ref y_shown, .int 0, .int 0, .ref y_nextNode, .ref y_endNode, .ref y_made, .ref y_beganAt, .ref y_ofNode, .ref y_isOwn, .int 0, .ref y_begin, .ref y_size, .ref y_holding, .int 0, .ref y_kept, .int 0])), (y_refused, .inl (g.2 1, 3, .inl (fun _ => 0)))] H locs) (hl : lv_has ls 4 [(3, .int 0), (2, .ref y), (1, .ref x), (0, .ref bs)]) {c : Int32} {i : Int32} {j : Int32} (e1 : xs 1 = c) (e2 : xs 2 = i) (e3 : xs 3 = j) (h1 : ¬ c < 0) (h2 : ¬ 9 < c) (h3 : ¬ 10 ≤ c) (h4 : ¬ i < 0) (h5 : j < 0) : W pp l ee room_1 s m #[Value.ref bs] bb mm cd H locs 973 728835 (lw_Z bb #[Value.ref bs] s) (F0 m 478 ls []) := by
  have hx := X.1
  have hb := X.2.1
  refine lv_aload_n hx hb dL_law_478 rfl (lv_at hl 2 rfl) ?_
  refine lv_aload_n hx hb dL_law_479 rfl (lv_at hl 3 rfl) ?_
  refine lv_iload_n hx hb dL_law_480 rfl (lv_at hl 0 rfl) ?_
  refine lv_iconst (v := 1) hx hb dL_law_481 (by decide) ?_
  refine lv_iadd hx hb dL_law_482 ?_
  refine r_vi (y := 1) (by decide) ?_
  refine r_sld X hX hbl h (v := xs 1) (vp_lit (by decide +kernel)) rfl dL_law_483 ?_
  refine r_vi (y := c) e1 ?_
  refine lv_aload_n hx hb dL_law_484 rfl (lv_at hl 3 rfl) ?_
  refine lv_iload_n hx hb dL_law_485 rfl (lv_at hl 0 rfl) ?_
  refine lv_iconst (v := 2) hx hb dL_law_486 (by decide) ?_
  refine lv_iadd hx hb dL_law_487 ?_
  refine r_vi (y := 2) (by decide) ?_
  refine r_sld X hX hbl h (v := xs 2) (vp_lit (by decide +kernel)) rfl dL_law_488 ?_
  refine r_vi (y := i) e2 ?_
  refine lv_aload_n hx hb dL_law_489 rfl (lv_at hl 3 rfl) ?_
  refine lv_iload_n hx hb dL_law_490 rfl (lv_at hl 0 rfl) ?_
  refine lv_iconst (v := 3) hx hb dL_law_491 (by decide) ?_
  refine lv_iadd hx hb dL_law_492 ?_
  refine r_vi (y := 3) (by decide) ?_
  refine r_sld X hX hbl h (v := xs 3) (vp_lit (by decide +kernel)) rfl dL_law_493 ?_
  refine r_vi (y := j) e3 ?_
  refine k_i X h [0] [1, 2] (wr := [(y, .inr (7, [.ref y_refused, .ref y_document, .int 0, .int 0, .ref y_variables, .int 0, .ref y_nodes, .ref y_node, .ref y_master, .ref y_isSet, .ref y_setMany, .ref y_setFrom, .ref y_setUsed, .ref y_setText, .ref y_atStop, .ref y_isFresh, .ref y_then, .ref y_choiceMany, .ref y_choiceFrom, .ref y_choiceLong, .ref y_choiceBytes, .int 0, .ref y_text, .int 0, .int 0, .int 0, .int 0, .ref y_open, .int 0, .ref y_shown, .int 0, .int 0, .ref y_nextNode, .ref y_endNode, .ref y_made, .ref y_beganAt, .ref y_ofNode, .ref y_isOwn, .int 0, .ref y_begin, .ref y_size, .ref y_holding, .int 0, .ref y_kept, .int 0])), (y_refused, .inl (g.2 1, 3, .inl (fun _ => 0)))]) rfl rfl rfl (by decide) 973 728835 (Nat.le_of_ble_eq_true rfl) (Nat.le_of_ble_eq_true rfl) (k_runV X h (As := [.int c, .int i, .int j]) (rest := []) (c6_choice_ilo l g H.size x tx lk pa nO dO c i j h1 h2 h3 h4 h5) cw_L_80 [0] rfl rfl 0 kl6 rfl rfl rfl (Nat.le_of_ble_eq_true rfl) (Nat.le_of_ble_eq_true rfl) rfl hl.1 rfl (Nat.le_of_ble_eq_true rfl) dL_law_494 (Nat.le_of_ble_eq_true rfl) (Nat.le_of_ble_eq_true rfl)) (fun _ H locs h => ?_)
  have h : ST g (LA s) s [(y, .inr (7, [.ref y_refused, .ref y_document, .int 0, .int 0, .ref y_variables, .int 0, .ref y_nodes, .ref y_node, .ref y_master, .ref y_isSet, .ref y_setMany, .ref y_setFrom, .ref y_setUsed, .ref y_setText, .ref y_atStop, .ref y_isFresh, .ref y_then, .ref y_choiceMany, .ref y_choiceFrom, .ref y_choiceLong, .ref y_choiceBytes, .int 0, .ref y_text, .int 0, .int 0, .int 0, .int 0, .ref y_open, .int 0, .ref y_shown, .int 0, .int 0, .ref y_nextNode, .ref y_endNode, .ref y_made, .ref y_beganAt, .ref y_ofNode, .ref y_isOwn, .int 0, .ref y_begin, .ref y_size, .ref y_holding, .int 0, .ref y_kept, .int 0])), (y_refused, .inl (g.2 1, 3, .inl (fun _ => 0)))] H locs := h
  refine lv_aload_n hx hb dL_law_497 rfl (lv_at hl 1 rfl) ?_
  refine lv_aload_n hx hb dL_law_498 rfl (lv_at hl 3 rfl) ?_
  refine lv_iload_n hx hb dL_law_499 rfl (lv_at hl 0 rfl) ?_
  refine lv_iconst (v := 1) hx hb dL_law_500 (by decide) ?_
  refine lv_iadd hx hb dL_law_501 ?_
  refine r_vi (y := 1) (by decide) ?_
  refine r_sld X hX hbl h (v := xs 1) (vp_lit (by decide +kernel)) rfl dL_law_502 ?_
  refine r_vi (y := c) e1 ?_
  refine lv_aload_n hx hb dL_law_503 rfl (lv_at hl 3 rfl) ?_
  refine lv_iload_n hx hb dL_law_504 rfl (lv_at hl 0 rfl) ?_
  refine lv_iconst (v := 2) hx hb dL_law_505 (by decide) ?_
  refine lv_iadd hx hb dL_law_506 ?_
  refine r_vi (y := 2) (by decide) ?_
  refine r_sld X hX hbl h (v := xs 2) (vp_lit (by decide +kernel)) rfl dL_law_507 ?_
  refine r_vi (y := i) e2 ?_
  refine lv_aload_n hx hb dL_law_508 rfl (lv_at hl 3 rfl) ?_
  refine lv_iload_n hx hb dL_law_509 rfl (lv_at hl 0 rfl) ?_
  refine lv_iconst (v := 3) hx hb dL_law_510 (by decide) ?_
  refine lv_iadd hx hb dL_law_511 ?_
  refine r_vi (y := 3) (by decide) ?_
  refine r_sld X hX hbl h (v := xs 3) (vp_lit (by decide +kernel)) rfl dL_law_512 ?_
  refine r_vi (y := j) e3 ?_
  refine k_i X h [0, 1] [] (wr := []) rfl rfl rfl (by decide) 973 728835 (Nat.le_of_ble_eq_true rfl) (Nat.le_of_ble_eq_true rfl) (k_runV X h (As := [.int c, .int i, .int j]) (rest := [.int (-2)]) (c7_choice_ilo l g H.size y y_refused y_document y_variables y_nodes y_node y_master y_isSet y_setMany y_setFrom y_setUsed y_setText y_atStop y_isFresh y_then y_choiceMany y_choiceFrom y_choiceLong y_choiceBytes y_text y_open y_shown y_nextNode y_endNode y_made y_beganAt y_ofNode y_isOwn y_begin y_size y_holding y_kept c i j h1 h2 h3 h4 h5) cw_L_84 [0, 1] rfl rfl 0 kl7 rfl rfl rfl (Nat.le_of_ble_eq_true rfl) (Nat.le_of_ble_eq_true rfl) rfl hl.1 rfl (Nat.le_of_ble_eq_true rfl) dL_law_513 (Nat.le_of_ble_eq_true rfl) (Nat.le_of_ble_eq_true rfl)) (fun _ H locs h => ?_)
  have h : ST g (LA s) s [] H locs := h
  refine lv_icmp_eq (tgt := 660) hx hb dL_law_516 (by decide) (fun c_1 => ?_) (fun c_1 => absurd (by decide) c_1)
  exact law_tail X hX hbl h (lv_sub hl [0, 3] rfl) (Nat.le_of_ble_eq_true rfl) (Nat.le_of_ble_eq_true rfl)

set_option maxHeartbeats 4000000 in
set_option maxRecDepth 100000 in
theorem lw_choice_ok {nm : String} {g : GE} {pp : Program} {l : Launch} {ee : Env} {s : State} {m : MethodId} {bb : List Frame} {mm : Method} {cd : Code} {bs : Nat} {xs : Nat → Int32} {H : Heap} {locs : List Loc} {ls : Array Slot} (X : CX g pp s m mm cd #[Value.ref bs] cL_law 4 RL nm ret (LA s)) (hX : va_X bs 4 xs s s.heap) (hbl : bs < s.heap.size) {y x tx lk pa nO dO np nv ns nsh y_refused y_document y_variables y_nodes y_node y_master y_isSet y_setMany y_setFrom y_setUsed y_setText y_atStop y_isFresh y_then y_choiceMany y_choiceFrom y_choiceLong y_choiceBytes y_text y_open y_shown y_nextNode y_endNode y_made y_beganAt y_ofNode y_isOwn y_begin y_size y_holding y_kept : Nat} (h : ST g (LA s) s [(x, .inr (6, [.ref tx, .ref lk, .ref pa, .int 0, .ref nO, .ref dO, .int 0, .int 0, .int 0])), (nO, .inr (4, [.ref np, .int 0, .ref nv, .ref ns, .int 0, .ref nsh])), (y, .inr (7, [.ref y_refused, .ref y_document, .int 0, .int 0, .ref y_variables, .int 0, .ref y_nodes, .ref y_node, .ref y_master, .ref y_isSet, .ref y_setMany, .ref y_setFrom, .ref y_setUsed, .ref y_setText, .ref y_atStop, .ref y_isFresh, .ref y_then, .ref y_choiceMany, .ref y_choiceFrom, .ref y_choiceLong, .ref y_choiceBytes, .int 0, .ref y_text, .int 0, .int 0, .int 0, .int 0, .ref y_open, .int 0, .ref y_shown, .int 0, .int 0, .ref y_nextNode, .ref y_endNode, .ref y_made, .ref y_beganAt, .ref y_ofNode, .ref y_isOwn, .int 0, .ref y_begin, .ref y_size, .ref y_holding, .int 0, .ref y_kept, .int 0])), (y_refused, .inl (g.2 1, 3, .inl (fun _ => 0)))] H locs) (hl : lv_has ls 4 [(3, .int 0), (2, .ref y), (1, .ref x), (0, .ref bs)]) {c : Int32} {i : Int32} {j : Int32} (e1 : xs 1 = c) (e2 : xs 2 = i) (e3 : xs 3 = j) (h1 : ¬ c < 0) (h2 : ¬ 9 < c) (h3 : ¬ 10 ≤ c) (h4 : ¬ i < 0) (h5 : ¬ j < 0) : W pp l ee room_1 s m #[Value.ref bs] bb mm cd H locs 973 728835 (lw_Z bb #[Value.ref bs] s) (F0 m 478 ls []) := by
  have hx := X.1
  have hb := X.2.1
  refine lv_aload_n hx hb dL_law_478 rfl (lv_at hl 2 rfl) ?_
  refine lv_aload_n hx hb dL_law_479 rfl (lv_at hl 3 rfl) ?_
  refine lv_iload_n hx hb dL_law_480 rfl (lv_at hl 0 rfl) ?_
  refine lv_iconst (v := 1) hx hb dL_law_481 (by decide) ?_
  refine lv_iadd hx hb dL_law_482 ?_
  refine r_vi (y := 1) (by decide) ?_
  refine r_sld X hX hbl h (v := xs 1) (vp_lit (by decide +kernel)) rfl dL_law_483 ?_
  refine r_vi (y := c) e1 ?_
  refine lv_aload_n hx hb dL_law_484 rfl (lv_at hl 3 rfl) ?_
  refine lv_iload_n hx hb dL_law_485 rfl (lv_at hl 0 rfl) ?_
  refine lv_iconst (v := 2) hx hb dL_law_486 (by decide) ?_
  refine lv_iadd hx hb dL_law_487 ?_
  refine r_vi (y := 2) (by decide) ?_
  refine r_sld X hX hbl h (v := xs 2) (vp_lit (by decide +kernel)) rfl dL_law_488 ?_
  refine r_vi (y := i) e2 ?_
  refine lv_aload_n hx hb dL_law_489 rfl (lv_at hl 3 rfl) ?_
  refine lv_iload_n hx hb dL_law_490 rfl (lv_at hl 0 rfl) ?_
  refine lv_iconst (v := 3) hx hb dL_law_491 (by decide) ?_
  refine lv_iadd hx hb dL_law_492 ?_
  refine r_vi (y := 3) (by decide) ?_
  refine r_sld X hX hbl h (v := xs 3) (vp_lit (by decide +kernel)) rfl dL_law_493 ?_
  refine r_vi (y := j) e3 ?_
  refine k_i X h [0, 1] [2, 3] (wr := [(y, .inr (7, [.ref y_refused, .ref y_document, .int 0, .int 0, .ref y_variables, .int 0, .ref y_nodes, .ref y_node, .ref y_master, .ref y_isSet, .ref y_setMany, .ref y_setFrom, .ref y_setUsed, .ref y_setText, .ref y_atStop, .ref y_isFresh, .ref y_then, .ref y_choiceMany, .ref y_choiceFrom, .ref y_choiceLong, .ref y_choiceBytes, .int 0, .ref y_text, .int 0, .int 0, .int 0, .int 0, .ref y_open, .int 0, .ref y_shown, .int 0, .int 0, .ref y_nextNode, .ref y_endNode, .ref y_made, .ref y_beganAt, .ref y_ofNode, .ref y_isOwn, .int 0, .ref y_begin, .ref y_size, .ref y_holding, .int 0, .ref y_kept, .int 0])), (y_refused, .inl (g.2 1, 3, .inl (fun _ => 0)))]) rfl rfl rfl (by decide) 973 728835 (Nat.le_of_ble_eq_true rfl) (Nat.le_of_ble_eq_true rfl) (k_runV X h (As := [.int c, .int i, .int j]) (rest := []) (c6_choice_ok l g H.size x tx lk pa nO dO np nv ns nsh c i j h1 h2 h3 h4 h5) cw_L_80 [0, 1] rfl rfl 0 kl6 rfl rfl rfl (Nat.le_of_ble_eq_true rfl) (Nat.le_of_ble_eq_true rfl) rfl hl.1 rfl (Nat.le_of_ble_eq_true rfl) dL_law_494 (Nat.le_of_ble_eq_true rfl) (Nat.le_of_ble_eq_true rfl)) (fun _ H locs h => ?_)
  have h : ST g (LA s) s [(y, .inr (7, [.ref y_refused, .ref y_document, .int 0, .int 0, .ref y_variables, .int 0, .ref y_nodes, .ref y_node, .ref y_master, .ref y_isSet, .ref y_setMany, .ref y_setFrom, .ref y_setUsed, .ref y_setText, .ref y_atStop, .ref y_isFresh, .ref y_then, .ref y_choiceMany, .ref y_choiceFrom, .ref y_choiceLong, .ref y_choiceBytes, .int 0, .ref y_text, .int 0, .int 0, .int 0, .int 0, .ref y_open, .int 0, .ref y_shown, .int 0, .int 0, .ref y_nextNode, .ref y_endNode, .ref y_made, .ref y_beganAt, .ref y_ofNode, .ref y_isOwn, .int 0, .ref y_begin, .ref y_size, .ref y_holding, .int 0, .ref y_kept, .int 0])), (y_refused, .inl (g.2 1, 3, .inl (fun _ => 0)))] H locs := h
  refine lv_aload_n hx hb dL_law_497 rfl (lv_at hl 1 rfl) ?_
  refine lv_aload_n hx hb dL_law_498 rfl (lv_at hl 3 rfl) ?_
  refine lv_iload_n hx hb dL_law_499 rfl (lv_at hl 0 rfl) ?_
  refine lv_iconst (v := 1) hx hb dL_law_500 (by decide) ?_
  refine lv_iadd hx hb dL_law_501 ?_
  refine r_vi (y := 1) (by decide) ?_
  refine r_sld X hX hbl h (v := xs 1) (vp_lit (by decide +kernel)) rfl dL_law_502 ?_
  refine r_vi (y := c) e1 ?_
  refine lv_aload_n hx hb dL_law_503 rfl (lv_at hl 3 rfl) ?_
  refine lv_iload_n hx hb dL_law_504 rfl (lv_at hl 0 rfl) ?_
  refine lv_iconst (v := 2) hx hb dL_law_505 (by decide) ?_
  refine lv_iadd hx hb dL_law_506 ?_
  refine r_vi (y := 2) (by decide) ?_
  refine r_sld X hX hbl h (v := xs 2) (vp_lit (by decide +kernel)) rfl dL_law_507 ?_
  refine r_vi (y := i) e2 ?_
  refine lv_aload_n hx hb dL_law_508 rfl (lv_at hl 3 rfl) ?_
  refine lv_iload_n hx hb dL_law_509 rfl (lv_at hl 0 rfl) ?_
  refine lv_iconst (v := 3) hx hb dL_law_510 (by decide) ?_
  refine lv_iadd hx hb dL_law_511 ?_
  refine r_vi (y := 3) (by decide) ?_
  refine r_sld X hX hbl h (v := xs 3) (vp_lit (by decide +kernel)) rfl dL_law_512 ?_
  refine r_vi (y := j) e3 ?_
  refine k_i X h [0, 1] [] (wr := []) rfl rfl rfl (by decide) 973 728835 (Nat.le_of_ble_eq_true rfl) (Nat.le_of_ble_eq_true rfl) (k_runV X h (As := [.int c, .int i, .int j]) (rest := [.int (-3)]) (c7_choice_ok l g H.size y y_refused y_document y_variables y_nodes y_node y_master y_isSet y_setMany y_setFrom y_setUsed y_setText y_atStop y_isFresh y_then y_choiceMany y_choiceFrom y_choiceLong y_choiceBytes y_text y_open y_shown y_nextNode y_endNode y_made y_beganAt y_ofNode y_isOwn y_begin y_size y_holding y_kept c i j h1 h2 h3 h4 h5) cw_L_84 [0, 1] rfl rfl 0 kl7 rfl rfl rfl (Nat.le_of_ble_eq_true rfl) (Nat.le_of_ble_eq_true rfl) rfl hl.1 rfl (Nat.le_of_ble_eq_true rfl) dL_law_513 (Nat.le_of_ble_eq_true rfl) (Nat.le_of_ble_eq_true rfl)) (fun _ H locs h => ?_)
  have h : ST g (LA s) s [] H locs := h
  refine lv_icmp_eq (tgt := 660) hx hb dL_law_516 (by decide) (fun c_1 => ?_) (fun c_1 => absurd (by decide) c_1)
  exact law_tail X hX hbl h (lv_sub hl [0, 3] rfl) (Nat.le_of_ble_eq_true rfl) (Nat.le_of_ble_eq_true rfl)

set_option maxHeartbeats 4000000 in
set_option maxRecDepth 100000 in
theorem lw_occurrence_lo {nm : String} {g : GE} {pp : Program} {l : Launch} {ee : Env} {s : State} {m : MethodId} {bb : List Frame} {mm : Method} {cd : Code} {bs : Nat} {xs : Nat → Int32} {H : Heap} {locs : List Loc} {ls : Array Slot} (X : CX g pp s m mm cd #[Value.ref bs] cL_law 4 RL nm ret (LA s)) (hX : va_X bs 4 xs s s.heap) (hbl : bs < s.heap.size) {y x tx lk pa nO dO y_refused y_document y_variables y_nodes y_node y_master y_isSet y_setMany y_setFrom y_setUsed y_setText y_atStop y_isFresh y_then y_choiceMany y_choiceFrom y_choiceLong y_choiceBytes y_text y_open y_shown y_nextNode y_endNode y_made y_beganAt y_ofNode y_isOwn y_begin y_size y_holding y_kept : Nat} (h : ST g (LA s) s [(x, .inr (6, [.ref tx, .ref lk, .ref pa, .int 0, .ref nO, .ref dO, .int 0, .int 0, .int 0])), (y, .inr (7, [.ref y_refused, .ref y_document, .int 0, .int 0, .ref y_variables, .int 0, .ref y_nodes, .ref y_node, .ref y_master, .ref y_isSet, .ref y_setMany, .ref y_setFrom, .ref y_setUsed, .ref y_setText, .ref y_atStop, .ref y_isFresh, .ref y_then, .ref y_choiceMany, .ref y_choiceFrom, .ref y_choiceLong, .ref y_choiceBytes, .int 0, .ref y_text, .int 0, .int 0, .int 0, .int 0, .ref y_open, .int 0, .ref y_shown, .int 0, .int 0, .ref y_nextNode, .ref y_endNode, .ref y_made, .ref y_beganAt, .ref y_ofNode, .ref y_isOwn, .int 0, .ref y_begin, .ref y_size, .ref y_holding, .int 0, .ref y_kept, .int 0])), (y_refused, .inl (g.2 1, 3, .inl (fun _ => 0)))] H locs) (hl : lv_has ls 4 [(3, .int 0), (2, .ref y), (1, .ref x), (0, .ref bs)]) {c : Int32} {i : Int32} {j : Int32} (e1 : xs 1 = c) (e2 : xs 2 = i) (e3 : xs 3 = j) (h1 : c < 0) : W pp l ee room_1 s m #[Value.ref bs] bb mm cd H locs 973 728835 (lw_Z bb #[Value.ref bs] s) (F0 m 521 ls []) := by
  have hx := X.1
  have hb := X.2.1
  refine lv_aload_n hx hb dL_law_521 rfl (lv_at hl 2 rfl) ?_
  refine lv_aload_n hx hb dL_law_522 rfl (lv_at hl 3 rfl) ?_
  refine lv_iload_n hx hb dL_law_523 rfl (lv_at hl 0 rfl) ?_
  refine lv_iconst (v := 1) hx hb dL_law_524 (by decide) ?_
  refine lv_iadd hx hb dL_law_525 ?_
  refine r_vi (y := 1) (by decide) ?_
  refine r_sld X hX hbl h (v := xs 1) (vp_lit (by decide +kernel)) rfl dL_law_526 ?_
  refine r_vi (y := c) e1 ?_
  refine lv_aload_n hx hb dL_law_527 rfl (lv_at hl 3 rfl) ?_
  refine lv_iload_n hx hb dL_law_528 rfl (lv_at hl 0 rfl) ?_
  refine lv_iconst (v := 2) hx hb dL_law_529 (by decide) ?_
  refine lv_iadd hx hb dL_law_530 ?_
  refine r_vi (y := 2) (by decide) ?_
  refine r_sld X hX hbl h (v := xs 2) (vp_lit (by decide +kernel)) rfl dL_law_531 ?_
  refine r_vi (y := i) e2 ?_
  refine lv_aload_n hx hb dL_law_532 rfl (lv_at hl 3 rfl) ?_
  refine lv_iload_n hx hb dL_law_533 rfl (lv_at hl 0 rfl) ?_
  refine lv_iconst (v := 3) hx hb dL_law_534 (by decide) ?_
  refine lv_iadd hx hb dL_law_535 ?_
  refine r_vi (y := 3) (by decide) ?_
  refine r_sld X hX hbl h (v := xs 3) (vp_lit (by decide +kernel)) rfl dL_law_536 ?_
  refine r_vi (y := j) e3 ?_
  refine k_i X h [0] [1, 2] (wr := [(y, .inr (7, [.ref y_refused, .ref y_document, .int 0, .int 0, .ref y_variables, .int 0, .ref y_nodes, .ref y_node, .ref y_master, .ref y_isSet, .ref y_setMany, .ref y_setFrom, .ref y_setUsed, .ref y_setText, .ref y_atStop, .ref y_isFresh, .ref y_then, .ref y_choiceMany, .ref y_choiceFrom, .ref y_choiceLong, .ref y_choiceBytes, .int 0, .ref y_text, .int 0, .int 0, .int 0, .int 0, .ref y_open, .int 0, .ref y_shown, .int 0, .int 0, .ref y_nextNode, .ref y_endNode, .ref y_made, .ref y_beganAt, .ref y_ofNode, .ref y_isOwn, .int 0, .ref y_begin, .ref y_size, .ref y_holding, .int 0, .ref y_kept, .int 0])), (y_refused, .inl (g.2 1, 3, .inl (fun _ => 0)))]) rfl rfl rfl (by decide) 973 728835 (Nat.le_of_ble_eq_true rfl) (Nat.le_of_ble_eq_true rfl) (k_runV X h (As := [.int c, .int i, .int j]) (rest := []) (c6_occurrence_lo l g H.size x tx lk pa nO dO c i j h1) cw_L_85 [0] rfl rfl 0 kl6 rfl rfl rfl (Nat.le_of_ble_eq_true rfl) (Nat.le_of_ble_eq_true rfl) rfl hl.1 rfl (Nat.le_of_ble_eq_true rfl) dL_law_537 (Nat.le_of_ble_eq_true rfl) (Nat.le_of_ble_eq_true rfl)) (fun _ H locs h => ?_)
  have h : ST g (LA s) s [(y, .inr (7, [.ref y_refused, .ref y_document, .int 0, .int 0, .ref y_variables, .int 0, .ref y_nodes, .ref y_node, .ref y_master, .ref y_isSet, .ref y_setMany, .ref y_setFrom, .ref y_setUsed, .ref y_setText, .ref y_atStop, .ref y_isFresh, .ref y_then, .ref y_choiceMany, .ref y_choiceFrom, .ref y_choiceLong, .ref y_choiceBytes, .int 0, .ref y_text, .int 0, .int 0, .int 0, .int 0, .ref y_open, .int 0, .ref y_shown, .int 0, .int 0, .ref y_nextNode, .ref y_endNode, .ref y_made, .ref y_beganAt, .ref y_ofNode, .ref y_isOwn, .int 0, .ref y_begin, .ref y_size, .ref y_holding, .int 0, .ref y_kept, .int 0])), (y_refused, .inl (g.2 1, 3, .inl (fun _ => 0)))] H locs := h
  refine lv_aload_n hx hb dL_law_540 rfl (lv_at hl 1 rfl) ?_
  refine lv_aload_n hx hb dL_law_541 rfl (lv_at hl 3 rfl) ?_
  refine lv_iload_n hx hb dL_law_542 rfl (lv_at hl 0 rfl) ?_
  refine lv_iconst (v := 1) hx hb dL_law_543 (by decide) ?_
  refine lv_iadd hx hb dL_law_544 ?_
  refine r_vi (y := 1) (by decide) ?_
  refine r_sld X hX hbl h (v := xs 1) (vp_lit (by decide +kernel)) rfl dL_law_545 ?_
  refine r_vi (y := c) e1 ?_
  refine lv_aload_n hx hb dL_law_546 rfl (lv_at hl 3 rfl) ?_
  refine lv_iload_n hx hb dL_law_547 rfl (lv_at hl 0 rfl) ?_
  refine lv_iconst (v := 2) hx hb dL_law_548 (by decide) ?_
  refine lv_iadd hx hb dL_law_549 ?_
  refine r_vi (y := 2) (by decide) ?_
  refine r_sld X hX hbl h (v := xs 2) (vp_lit (by decide +kernel)) rfl dL_law_550 ?_
  refine r_vi (y := i) e2 ?_
  refine lv_aload_n hx hb dL_law_551 rfl (lv_at hl 3 rfl) ?_
  refine lv_iload_n hx hb dL_law_552 rfl (lv_at hl 0 rfl) ?_
  refine lv_iconst (v := 3) hx hb dL_law_553 (by decide) ?_
  refine lv_iadd hx hb dL_law_554 ?_
  refine r_vi (y := 3) (by decide) ?_
  refine r_sld X hX hbl h (v := xs 3) (vp_lit (by decide +kernel)) rfl dL_law_555 ?_
  refine r_vi (y := j) e3 ?_
  refine k_i X h [0, 1] [] (wr := []) rfl rfl rfl (by decide) 973 728835 (Nat.le_of_ble_eq_true rfl) (Nat.le_of_ble_eq_true rfl) (k_runV X h (As := [.int c, .int i, .int j]) (rest := [.int (-2)]) (c7_occurrence_lo l g H.size y y_refused y_document y_variables y_nodes y_node y_master y_isSet y_setMany y_setFrom y_setUsed y_setText y_atStop y_isFresh y_then y_choiceMany y_choiceFrom y_choiceLong y_choiceBytes y_text y_open y_shown y_nextNode y_endNode y_made y_beganAt y_ofNode y_isOwn y_begin y_size y_holding y_kept c i j h1) cw_L_88 [0, 1] rfl rfl 0 kl7 rfl rfl rfl (Nat.le_of_ble_eq_true rfl) (Nat.le_of_ble_eq_true rfl) rfl hl.1 rfl (Nat.le_of_ble_eq_true rfl) dL_law_556 (Nat.le_of_ble_eq_true rfl) (Nat.le_of_ble_eq_true rfl)) (fun _ H locs h => ?_)
  have h : ST g (LA s) s [] H locs := h
  refine lv_icmp_eq (tgt := 660) hx hb dL_law_559 (by decide) (fun c_1 => ?_) (fun c_1 => absurd (by decide) c_1)
  exact law_tail X hX hbl h (lv_sub hl [0, 3] rfl) (Nat.le_of_ble_eq_true rfl) (Nat.le_of_ble_eq_true rfl)

set_option maxHeartbeats 4000000 in
set_option maxRecDepth 100000 in
theorem lw_occurrence_hi {nm : String} {g : GE} {pp : Program} {l : Launch} {ee : Env} {s : State} {m : MethodId} {bb : List Frame} {mm : Method} {cd : Code} {bs : Nat} {xs : Nat → Int32} {H : Heap} {locs : List Loc} {ls : Array Slot} (X : CX g pp s m mm cd #[Value.ref bs] cL_law 4 RL nm ret (LA s)) (hX : va_X bs 4 xs s s.heap) (hbl : bs < s.heap.size) {y x tx lk pa nO dO y_refused y_document y_variables y_nodes y_node y_master y_isSet y_setMany y_setFrom y_setUsed y_setText y_atStop y_isFresh y_then y_choiceMany y_choiceFrom y_choiceLong y_choiceBytes y_text y_open y_shown y_nextNode y_endNode y_made y_beganAt y_ofNode y_isOwn y_begin y_size y_holding y_kept : Nat} (h : ST g (LA s) s [(x, .inr (6, [.ref tx, .ref lk, .ref pa, .int 0, .ref nO, .ref dO, .int 0, .int 0, .int 0])), (y, .inr (7, [.ref y_refused, .ref y_document, .int 0, .int 0, .ref y_variables, .int 0, .ref y_nodes, .ref y_node, .ref y_master, .ref y_isSet, .ref y_setMany, .ref y_setFrom, .ref y_setUsed, .ref y_setText, .ref y_atStop, .ref y_isFresh, .ref y_then, .ref y_choiceMany, .ref y_choiceFrom, .ref y_choiceLong, .ref y_choiceBytes, .int 0, .ref y_text, .int 0, .int 0, .int 0, .int 0, .ref y_open, .int 0, .ref y_shown, .int 0, .int 0, .ref y_nextNode, .ref y_endNode, .ref y_made, .ref y_beganAt, .ref y_ofNode, .ref y_isOwn, .int 0, .ref y_begin, .ref y_size, .ref y_holding, .int 0, .ref y_kept, .int 0])), (y_refused, .inl (g.2 1, 3, .inl (fun _ => 0)))] H locs) (hl : lv_has ls 4 [(3, .int 0), (2, .ref y), (1, .ref x), (0, .ref bs)]) {c : Int32} {i : Int32} {j : Int32} (e1 : xs 1 = c) (e2 : xs 2 = i) (e3 : xs 3 = j) (h1 : ¬ c < 0) (h2 : 9 < c) (h3 : 10 ≤ c) : W pp l ee room_1 s m #[Value.ref bs] bb mm cd H locs 973 728835 (lw_Z bb #[Value.ref bs] s) (F0 m 521 ls []) := by
  have hx := X.1
  have hb := X.2.1
  refine lv_aload_n hx hb dL_law_521 rfl (lv_at hl 2 rfl) ?_
  refine lv_aload_n hx hb dL_law_522 rfl (lv_at hl 3 rfl) ?_
  refine lv_iload_n hx hb dL_law_523 rfl (lv_at hl 0 rfl) ?_
  refine lv_iconst (v := 1) hx hb dL_law_524 (by decide) ?_
  refine lv_iadd hx hb dL_law_525 ?_
  refine r_vi (y := 1) (by decide) ?_
  refine r_sld X hX hbl h (v := xs 1) (vp_lit (by decide +kernel)) rfl dL_law_526 ?_
  refine r_vi (y := c) e1 ?_
  refine lv_aload_n hx hb dL_law_527 rfl (lv_at hl 3 rfl) ?_
  refine lv_iload_n hx hb dL_law_528 rfl (lv_at hl 0 rfl) ?_
  refine lv_iconst (v := 2) hx hb dL_law_529 (by decide) ?_
  refine lv_iadd hx hb dL_law_530 ?_
  refine r_vi (y := 2) (by decide) ?_
  refine r_sld X hX hbl h (v := xs 2) (vp_lit (by decide +kernel)) rfl dL_law_531 ?_
  refine r_vi (y := i) e2 ?_
  refine lv_aload_n hx hb dL_law_532 rfl (lv_at hl 3 rfl) ?_
  refine lv_iload_n hx hb dL_law_533 rfl (lv_at hl 0 rfl) ?_
  refine lv_iconst (v := 3) hx hb dL_law_534 (by decide) ?_
  refine lv_iadd hx hb dL_law_535 ?_
  refine r_vi (y := 3) (by decide) ?_
  refine r_sld X hX hbl h (v := xs 3) (vp_lit (by decide +kernel)) rfl dL_law_536 ?_
  refine r_vi (y := j) e3 ?_
  refine k_i X h [0] [1, 2] (wr := [(y, .inr (7, [.ref y_refused, .ref y_document, .int 0, .int 0, .ref y_variables, .int 0, .ref y_nodes, .ref y_node, .ref y_master, .ref y_isSet, .ref y_setMany, .ref y_setFrom, .ref y_setUsed, .ref y_setText, .ref y_atStop, .ref y_isFresh, .ref y_then, .ref y_choiceMany, .ref y_choiceFrom, .ref y_choiceLong, .ref y_choiceBytes, .int 0, .ref y_text, .int 0, .int 0, .int 0, .int 0, .ref y_open, .int 0, .ref y_shown, .int 0, .int 0, .ref y_nextNode, .ref y_endNode, .ref y_made, .ref y_beganAt, .ref y_ofNode, .ref y_isOwn, .int 0, .ref y_begin, .ref y_size, .ref y_holding, .int 0, .ref y_kept, .int 0])), (y_refused, .inl (g.2 1, 3, .inl (fun _ => 0)))]) rfl rfl rfl (by decide) 973 728835 (Nat.le_of_ble_eq_true rfl) (Nat.le_of_ble_eq_true rfl) (k_runV X h (As := [.int c, .int i, .int j]) (rest := []) (c6_occurrence_hi l g H.size x tx lk pa nO dO c i j h1 h2 h3) cw_L_85 [0] rfl rfl 0 kl6 rfl rfl rfl (Nat.le_of_ble_eq_true rfl) (Nat.le_of_ble_eq_true rfl) rfl hl.1 rfl (Nat.le_of_ble_eq_true rfl) dL_law_537 (Nat.le_of_ble_eq_true rfl) (Nat.le_of_ble_eq_true rfl)) (fun _ H locs h => ?_)
  have h : ST g (LA s) s [(y, .inr (7, [.ref y_refused, .ref y_document, .int 0, .int 0, .ref y_variables, .int 0, .ref y_nodes, .ref y_node, .ref y_master, .ref y_isSet, .ref y_setMany, .ref y_setFrom, .ref y_setUsed, .ref y_setText, .ref y_atStop, .ref y_isFresh, .ref y_then, .ref y_choiceMany, .ref y_choiceFrom, .ref y_choiceLong, .ref y_choiceBytes, .int 0, .ref y_text, .int 0, .int 0, .int 0, .int 0, .ref y_open, .int 0, .ref y_shown, .int 0, .int 0, .ref y_nextNode, .ref y_endNode, .ref y_made, .ref y_beganAt, .ref y_ofNode, .ref y_isOwn, .int 0, .ref y_begin, .ref y_size, .ref y_holding, .int 0, .ref y_kept, .int 0])), (y_refused, .inl (g.2 1, 3, .inl (fun _ => 0)))] H locs := h
  refine lv_aload_n hx hb dL_law_540 rfl (lv_at hl 1 rfl) ?_
  refine lv_aload_n hx hb dL_law_541 rfl (lv_at hl 3 rfl) ?_
  refine lv_iload_n hx hb dL_law_542 rfl (lv_at hl 0 rfl) ?_
  refine lv_iconst (v := 1) hx hb dL_law_543 (by decide) ?_
  refine lv_iadd hx hb dL_law_544 ?_
  refine r_vi (y := 1) (by decide) ?_
  refine r_sld X hX hbl h (v := xs 1) (vp_lit (by decide +kernel)) rfl dL_law_545 ?_
  refine r_vi (y := c) e1 ?_
  refine lv_aload_n hx hb dL_law_546 rfl (lv_at hl 3 rfl) ?_
  refine lv_iload_n hx hb dL_law_547 rfl (lv_at hl 0 rfl) ?_
  refine lv_iconst (v := 2) hx hb dL_law_548 (by decide) ?_
  refine lv_iadd hx hb dL_law_549 ?_
  refine r_vi (y := 2) (by decide) ?_
  refine r_sld X hX hbl h (v := xs 2) (vp_lit (by decide +kernel)) rfl dL_law_550 ?_
  refine r_vi (y := i) e2 ?_
  refine lv_aload_n hx hb dL_law_551 rfl (lv_at hl 3 rfl) ?_
  refine lv_iload_n hx hb dL_law_552 rfl (lv_at hl 0 rfl) ?_
  refine lv_iconst (v := 3) hx hb dL_law_553 (by decide) ?_
  refine lv_iadd hx hb dL_law_554 ?_
  refine r_vi (y := 3) (by decide) ?_
  refine r_sld X hX hbl h (v := xs 3) (vp_lit (by decide +kernel)) rfl dL_law_555 ?_
  refine r_vi (y := j) e3 ?_
  refine k_i X h [0, 1] [] (wr := []) rfl rfl rfl (by decide) 973 728835 (Nat.le_of_ble_eq_true rfl) (Nat.le_of_ble_eq_true rfl) (k_runV X h (As := [.int c, .int i, .int j]) (rest := [.int (-2)]) (c7_occurrence_hi l g H.size y y_refused y_document y_variables y_nodes y_node y_master y_isSet y_setMany y_setFrom y_setUsed y_setText y_atStop y_isFresh y_then y_choiceMany y_choiceFrom y_choiceLong y_choiceBytes y_text y_open y_shown y_nextNode y_endNode y_made y_beganAt y_ofNode y_isOwn y_begin y_size y_holding y_kept c i j h1 h2 h3) cw_L_88 [0, 1] rfl rfl 0 kl7 rfl rfl rfl (Nat.le_of_ble_eq_true rfl) (Nat.le_of_ble_eq_true rfl) rfl hl.1 rfl (Nat.le_of_ble_eq_true rfl) dL_law_556 (Nat.le_of_ble_eq_true rfl) (Nat.le_of_ble_eq_true rfl)) (fun _ H locs h => ?_)
  have h : ST g (LA s) s [] H locs := h
  refine lv_icmp_eq (tgt := 660) hx hb dL_law_559 (by decide) (fun c_1 => ?_) (fun c_1 => absurd (by decide) c_1)
  exact law_tail X hX hbl h (lv_sub hl [0, 3] rfl) (Nat.le_of_ble_eq_true rfl) (Nat.le_of_ble_eq_true rfl)

set_option maxHeartbeats 4000000 in
set_option maxRecDepth 100000 in
theorem lw_occurrence_jlo {nm : String} {g : GE} {pp : Program} {l : Launch} {ee : Env} {s : State} {m : MethodId} {bb : List Frame} {mm : Method} {cd : Code} {bs : Nat} {xs : Nat → Int32} {H : Heap} {locs : List Loc} {ls : Array Slot} (X : CX g pp s m mm cd #[Value.ref bs] cL_law 4 RL nm ret (LA s)) (hX : va_X bs 4 xs s s.heap) (hbl : bs < s.heap.size) {y x tx lk pa nO dO y_refused y_document y_variables y_nodes y_node y_master y_isSet y_setMany y_setFrom y_setUsed y_setText y_atStop y_isFresh y_then y_choiceMany y_choiceFrom y_choiceLong y_choiceBytes y_text y_open y_shown y_nextNode y_endNode y_made y_beganAt y_ofNode y_isOwn y_begin y_size y_holding y_kept : Nat} (h : ST g (LA s) s [(x, .inr (6, [.ref tx, .ref lk, .ref pa, .int 0, .ref nO, .ref dO, .int 0, .int 0, .int 0])), (y, .inr (7, [.ref y_refused, .ref y_document, .int 0, .int 0, .ref y_variables, .int 0, .ref y_nodes, .ref y_node, .ref y_master, .ref y_isSet, .ref y_setMany, .ref y_setFrom, .ref y_setUsed, .ref y_setText, .ref y_atStop, .ref y_isFresh, .ref y_then, .ref y_choiceMany, .ref y_choiceFrom, .ref y_choiceLong, .ref y_choiceBytes, .int 0, .ref y_text, .int 0, .int 0, .int 0, .int 0, .ref y_open, .int 0, .ref y_shown, .int 0, .int 0, .ref y_nextNode, .ref y_endNode, .ref y_made, .ref y_beganAt, .ref y_ofNode, .ref y_isOwn, .int 0, .ref y_begin, .ref y_size, .ref y_holding, .int 0, .ref y_kept, .int 0])), (y_refused, .inl (g.2 1, 3, .inl (fun _ => 0)))] H locs) (hl : lv_has ls 4 [(3, .int 0), (2, .ref y), (1, .ref x), (0, .ref bs)]) {c : Int32} {i : Int32} {j : Int32} (e1 : xs 1 = c) (e2 : xs 2 = i) (e3 : xs 3 = j) (h1 : ¬ c < 0) (h2 : ¬ 9 < c) (h3 : ¬ 10 ≤ c) (h4 : i < 0) : W pp l ee room_1 s m #[Value.ref bs] bb mm cd H locs 973 728835 (lw_Z bb #[Value.ref bs] s) (F0 m 521 ls []) := by
  have hx := X.1
  have hb := X.2.1
  refine lv_aload_n hx hb dL_law_521 rfl (lv_at hl 2 rfl) ?_
  refine lv_aload_n hx hb dL_law_522 rfl (lv_at hl 3 rfl) ?_
  refine lv_iload_n hx hb dL_law_523 rfl (lv_at hl 0 rfl) ?_
  refine lv_iconst (v := 1) hx hb dL_law_524 (by decide) ?_
  refine lv_iadd hx hb dL_law_525 ?_
  refine r_vi (y := 1) (by decide) ?_
  refine r_sld X hX hbl h (v := xs 1) (vp_lit (by decide +kernel)) rfl dL_law_526 ?_
  refine r_vi (y := c) e1 ?_
  refine lv_aload_n hx hb dL_law_527 rfl (lv_at hl 3 rfl) ?_
  refine lv_iload_n hx hb dL_law_528 rfl (lv_at hl 0 rfl) ?_
  refine lv_iconst (v := 2) hx hb dL_law_529 (by decide) ?_
  refine lv_iadd hx hb dL_law_530 ?_
  refine r_vi (y := 2) (by decide) ?_
  refine r_sld X hX hbl h (v := xs 2) (vp_lit (by decide +kernel)) rfl dL_law_531 ?_
  refine r_vi (y := i) e2 ?_
  refine lv_aload_n hx hb dL_law_532 rfl (lv_at hl 3 rfl) ?_
  refine lv_iload_n hx hb dL_law_533 rfl (lv_at hl 0 rfl) ?_
  refine lv_iconst (v := 3) hx hb dL_law_534 (by decide) ?_
  refine lv_iadd hx hb dL_law_535 ?_
  refine r_vi (y := 3) (by decide) ?_
  refine r_sld X hX hbl h (v := xs 3) (vp_lit (by decide +kernel)) rfl dL_law_536 ?_
  refine r_vi (y := j) e3 ?_
  refine k_i X h [0] [1, 2] (wr := [(y, .inr (7, [.ref y_refused, .ref y_document, .int 0, .int 0, .ref y_variables, .int 0, .ref y_nodes, .ref y_node, .ref y_master, .ref y_isSet, .ref y_setMany, .ref y_setFrom, .ref y_setUsed, .ref y_setText, .ref y_atStop, .ref y_isFresh, .ref y_then, .ref y_choiceMany, .ref y_choiceFrom, .ref y_choiceLong, .ref y_choiceBytes, .int 0, .ref y_text, .int 0, .int 0, .int 0, .int 0, .ref y_open, .int 0, .ref y_shown, .int 0, .int 0, .ref y_nextNode, .ref y_endNode, .ref y_made, .ref y_beganAt, .ref y_ofNode, .ref y_isOwn, .int 0, .ref y_begin, .ref y_size, .ref y_holding, .int 0, .ref y_kept, .int 0])), (y_refused, .inl (g.2 1, 3, .inl (fun _ => 0)))]) rfl rfl rfl (by decide) 973 728835 (Nat.le_of_ble_eq_true rfl) (Nat.le_of_ble_eq_true rfl) (k_runV X h (As := [.int c, .int i, .int j]) (rest := []) (c6_occurrence_jlo l g H.size x tx lk pa nO dO c i j h1 h2 h3 h4) cw_L_85 [0] rfl rfl 0 kl6 rfl rfl rfl (Nat.le_of_ble_eq_true rfl) (Nat.le_of_ble_eq_true rfl) rfl hl.1 rfl (Nat.le_of_ble_eq_true rfl) dL_law_537 (Nat.le_of_ble_eq_true rfl) (Nat.le_of_ble_eq_true rfl)) (fun _ H locs h => ?_)
  have h : ST g (LA s) s [(y, .inr (7, [.ref y_refused, .ref y_document, .int 0, .int 0, .ref y_variables, .int 0, .ref y_nodes, .ref y_node, .ref y_master, .ref y_isSet, .ref y_setMany, .ref y_setFrom, .ref y_setUsed, .ref y_setText, .ref y_atStop, .ref y_isFresh, .ref y_then, .ref y_choiceMany, .ref y_choiceFrom, .ref y_choiceLong, .ref y_choiceBytes, .int 0, .ref y_text, .int 0, .int 0, .int 0, .int 0, .ref y_open, .int 0, .ref y_shown, .int 0, .int 0, .ref y_nextNode, .ref y_endNode, .ref y_made, .ref y_beganAt, .ref y_ofNode, .ref y_isOwn, .int 0, .ref y_begin, .ref y_size, .ref y_holding, .int 0, .ref y_kept, .int 0])), (y_refused, .inl (g.2 1, 3, .inl (fun _ => 0)))] H locs := h
  refine lv_aload_n hx hb dL_law_540 rfl (lv_at hl 1 rfl) ?_
  refine lv_aload_n hx hb dL_law_541 rfl (lv_at hl 3 rfl) ?_
  refine lv_iload_n hx hb dL_law_542 rfl (lv_at hl 0 rfl) ?_
  refine lv_iconst (v := 1) hx hb dL_law_543 (by decide) ?_
  refine lv_iadd hx hb dL_law_544 ?_
  refine r_vi (y := 1) (by decide) ?_
  refine r_sld X hX hbl h (v := xs 1) (vp_lit (by decide +kernel)) rfl dL_law_545 ?_
  refine r_vi (y := c) e1 ?_
  refine lv_aload_n hx hb dL_law_546 rfl (lv_at hl 3 rfl) ?_
  refine lv_iload_n hx hb dL_law_547 rfl (lv_at hl 0 rfl) ?_
  refine lv_iconst (v := 2) hx hb dL_law_548 (by decide) ?_
  refine lv_iadd hx hb dL_law_549 ?_
  refine r_vi (y := 2) (by decide) ?_
  refine r_sld X hX hbl h (v := xs 2) (vp_lit (by decide +kernel)) rfl dL_law_550 ?_
  refine r_vi (y := i) e2 ?_
  refine lv_aload_n hx hb dL_law_551 rfl (lv_at hl 3 rfl) ?_
  refine lv_iload_n hx hb dL_law_552 rfl (lv_at hl 0 rfl) ?_
  refine lv_iconst (v := 3) hx hb dL_law_553 (by decide) ?_
  refine lv_iadd hx hb dL_law_554 ?_
  refine r_vi (y := 3) (by decide) ?_
  refine r_sld X hX hbl h (v := xs 3) (vp_lit (by decide +kernel)) rfl dL_law_555 ?_
  refine r_vi (y := j) e3 ?_
  refine k_i X h [0, 1] [] (wr := []) rfl rfl rfl (by decide) 973 728835 (Nat.le_of_ble_eq_true rfl) (Nat.le_of_ble_eq_true rfl) (k_runV X h (As := [.int c, .int i, .int j]) (rest := [.int (-2)]) (c7_occurrence_jlo l g H.size y y_refused y_document y_variables y_nodes y_node y_master y_isSet y_setMany y_setFrom y_setUsed y_setText y_atStop y_isFresh y_then y_choiceMany y_choiceFrom y_choiceLong y_choiceBytes y_text y_open y_shown y_nextNode y_endNode y_made y_beganAt y_ofNode y_isOwn y_begin y_size y_holding y_kept c i j h1 h2 h3 h4) cw_L_88 [0, 1] rfl rfl 0 kl7 rfl rfl rfl (Nat.le_of_ble_eq_true rfl) (Nat.le_of_ble_eq_true rfl) rfl hl.1 rfl (Nat.le_of_ble_eq_true rfl) dL_law_556 (Nat.le_of_ble_eq_true rfl) (Nat.le_of_ble_eq_true rfl)) (fun _ H locs h => ?_)
  have h : ST g (LA s) s [] H locs := h
  refine lv_icmp_eq (tgt := 660) hx hb dL_law_559 (by decide) (fun c_1 => ?_) (fun c_1 => absurd (by decide) c_1)
  exact law_tail X hX hbl h (lv_sub hl [0, 3] rfl) (Nat.le_of_ble_eq_true rfl) (Nat.le_of_ble_eq_true rfl)

set_option maxHeartbeats 4000000 in
set_option maxRecDepth 100000 in
theorem lw_occurrence_wlo {nm : String} {g : GE} {pp : Program} {l : Launch} {ee : Env} {s : State} {m : MethodId} {bb : List Frame} {mm : Method} {cd : Code} {bs : Nat} {xs : Nat → Int32} {H : Heap} {locs : List Loc} {ls : Array Slot} (X : CX g pp s m mm cd #[Value.ref bs] cL_law 4 RL nm ret (LA s)) (hX : va_X bs 4 xs s s.heap) (hbl : bs < s.heap.size) {y x tx lk pa nO dO y_refused y_document y_variables y_nodes y_node y_master y_isSet y_setMany y_setFrom y_setUsed y_setText y_atStop y_isFresh y_then y_choiceMany y_choiceFrom y_choiceLong y_choiceBytes y_text y_open y_shown y_nextNode y_endNode y_made y_beganAt y_ofNode y_isOwn y_begin y_size y_holding y_kept : Nat} (h : ST g (LA s) s [(x, .inr (6, [.ref tx, .ref lk, .ref pa, .int 0, .ref nO, .ref dO, .int 0, .int 0, .int 0])), (y, .inr (7, [.ref y_refused, .ref y_document, .int 0, .int 0, .ref y_variables, .int 0, .ref y_nodes, .ref y_node, .ref y_master, .ref y_isSet, .ref y_setMany, .ref y_setFrom, .ref y_setUsed, .ref y_setText, .ref y_atStop, .ref y_isFresh, .ref y_then, .ref y_choiceMany, .ref y_choiceFrom, .ref y_choiceLong, .ref y_choiceBytes, .int 0, .ref y_text, .int 0, .int 0, .int 0, .int 0, .ref y_open, .int 0, .ref y_shown, .int 0, .int 0, .ref y_nextNode, .ref y_endNode, .ref y_made, .ref y_beganAt, .ref y_ofNode, .ref y_isOwn, .int 0, .ref y_begin, .ref y_size, .ref y_holding, .int 0, .ref y_kept, .int 0])), (y_refused, .inl (g.2 1, 3, .inl (fun _ => 0)))] H locs) (hl : lv_has ls 4 [(3, .int 0), (2, .ref y), (1, .ref x), (0, .ref bs)]) {c : Int32} {i : Int32} {j : Int32} (e1 : xs 1 = c) (e2 : xs 2 = i) (e3 : xs 3 = j) (h1 : ¬ c < 0) (h2 : ¬ 9 < c) (h3 : ¬ 10 ≤ c) (h4 : ¬ i < 0) (h5 : j < 0) : W pp l ee room_1 s m #[Value.ref bs] bb mm cd H locs 973 728835 (lw_Z bb #[Value.ref bs] s) (F0 m 521 ls []) := by
  have hx := X.1
  have hb := X.2.1
  refine lv_aload_n hx hb dL_law_521 rfl (lv_at hl 2 rfl) ?_
  refine lv_aload_n hx hb dL_law_522 rfl (lv_at hl 3 rfl) ?_
  refine lv_iload_n hx hb dL_law_523 rfl (lv_at hl 0 rfl) ?_
  refine lv_iconst (v := 1) hx hb dL_law_524 (by decide) ?_
  refine lv_iadd hx hb dL_law_525 ?_
  refine r_vi (y := 1) (by decide) ?_
  refine r_sld X hX hbl h (v := xs 1) (vp_lit (by decide +kernel)) rfl dL_law_526 ?_
  refine r_vi (y := c) e1 ?_
  refine lv_aload_n hx hb dL_law_527 rfl (lv_at hl 3 rfl) ?_
  refine lv_iload_n hx hb dL_law_528 rfl (lv_at hl 0 rfl) ?_
  refine lv_iconst (v := 2) hx hb dL_law_529 (by decide) ?_
  refine lv_iadd hx hb dL_law_530 ?_
  refine r_vi (y := 2) (by decide) ?_
  refine r_sld X hX hbl h (v := xs 2) (vp_lit (by decide +kernel)) rfl dL_law_531 ?_
  refine r_vi (y := i) e2 ?_
  refine lv_aload_n hx hb dL_law_532 rfl (lv_at hl 3 rfl) ?_
  refine lv_iload_n hx hb dL_law_533 rfl (lv_at hl 0 rfl) ?_
  refine lv_iconst (v := 3) hx hb dL_law_534 (by decide) ?_
  refine lv_iadd hx hb dL_law_535 ?_
  refine r_vi (y := 3) (by decide) ?_
  refine r_sld X hX hbl h (v := xs 3) (vp_lit (by decide +kernel)) rfl dL_law_536 ?_
  refine r_vi (y := j) e3 ?_
  refine k_i X h [0] [1, 2] (wr := [(y, .inr (7, [.ref y_refused, .ref y_document, .int 0, .int 0, .ref y_variables, .int 0, .ref y_nodes, .ref y_node, .ref y_master, .ref y_isSet, .ref y_setMany, .ref y_setFrom, .ref y_setUsed, .ref y_setText, .ref y_atStop, .ref y_isFresh, .ref y_then, .ref y_choiceMany, .ref y_choiceFrom, .ref y_choiceLong, .ref y_choiceBytes, .int 0, .ref y_text, .int 0, .int 0, .int 0, .int 0, .ref y_open, .int 0, .ref y_shown, .int 0, .int 0, .ref y_nextNode, .ref y_endNode, .ref y_made, .ref y_beganAt, .ref y_ofNode, .ref y_isOwn, .int 0, .ref y_begin, .ref y_size, .ref y_holding, .int 0, .ref y_kept, .int 0])), (y_refused, .inl (g.2 1, 3, .inl (fun _ => 0)))]) rfl rfl rfl (by decide) 973 728835 (Nat.le_of_ble_eq_true rfl) (Nat.le_of_ble_eq_true rfl) (k_runV X h (As := [.int c, .int i, .int j]) (rest := []) (c6_occurrence_wlo l g H.size x tx lk pa nO dO c i j h1 h2 h3 h4 h5) cw_L_85 [0] rfl rfl 0 kl6 rfl rfl rfl (Nat.le_of_ble_eq_true rfl) (Nat.le_of_ble_eq_true rfl) rfl hl.1 rfl (Nat.le_of_ble_eq_true rfl) dL_law_537 (Nat.le_of_ble_eq_true rfl) (Nat.le_of_ble_eq_true rfl)) (fun _ H locs h => ?_)
  have h : ST g (LA s) s [(y, .inr (7, [.ref y_refused, .ref y_document, .int 0, .int 0, .ref y_variables, .int 0, .ref y_nodes, .ref y_node, .ref y_master, .ref y_isSet, .ref y_setMany, .ref y_setFrom, .ref y_setUsed, .ref y_setText, .ref y_atStop, .ref y_isFresh, .ref y_then, .ref y_choiceMany, .ref y_choiceFrom, .ref y_choiceLong, .ref y_choiceBytes, .int 0, .ref y_text, .int 0, .int 0, .int 0, .int 0, .ref y_open, .int 0, .ref y_shown, .int 0, .int 0, .ref y_nextNode, .ref y_endNode, .ref y_made, .ref y_beganAt, .ref y_ofNode, .ref y_isOwn, .int 0, .ref y_begin, .ref y_size, .ref y_holding, .int 0, .ref y_kept, .int 0])), (y_refused, .inl (g.2 1, 3, .inl (fun _ => 0)))] H locs := h
  refine lv_aload_n hx hb dL_law_540 rfl (lv_at hl 1 rfl) ?_
  refine lv_aload_n hx hb dL_law_541 rfl (lv_at hl 3 rfl) ?_
  refine lv_iload_n hx hb dL_law_542 rfl (lv_at hl 0 rfl) ?_
  refine lv_iconst (v := 1) hx hb dL_law_543 (by decide) ?_
  refine lv_iadd hx hb dL_law_544 ?_
  refine r_vi (y := 1) (by decide) ?_
  refine r_sld X hX hbl h (v := xs 1) (vp_lit (by decide +kernel)) rfl dL_law_545 ?_
  refine r_vi (y := c) e1 ?_
  refine lv_aload_n hx hb dL_law_546 rfl (lv_at hl 3 rfl) ?_
  refine lv_iload_n hx hb dL_law_547 rfl (lv_at hl 0 rfl) ?_
  refine lv_iconst (v := 2) hx hb dL_law_548 (by decide) ?_
  refine lv_iadd hx hb dL_law_549 ?_
  refine r_vi (y := 2) (by decide) ?_
  refine r_sld X hX hbl h (v := xs 2) (vp_lit (by decide +kernel)) rfl dL_law_550 ?_
  refine r_vi (y := i) e2 ?_
  refine lv_aload_n hx hb dL_law_551 rfl (lv_at hl 3 rfl) ?_
  refine lv_iload_n hx hb dL_law_552 rfl (lv_at hl 0 rfl) ?_
  refine lv_iconst (v := 3) hx hb dL_law_553 (by decide) ?_
  refine lv_iadd hx hb dL_law_554 ?_
  refine r_vi (y := 3) (by decide) ?_
  refine r_sld X hX hbl h (v := xs 3) (vp_lit (by decide +kernel)) rfl dL_law_555 ?_
  refine r_vi (y := j) e3 ?_
  refine k_i X h [0, 1] [] (wr := []) rfl rfl rfl (by decide) 973 728835 (Nat.le_of_ble_eq_true rfl) (Nat.le_of_ble_eq_true rfl) (k_runV X h (As := [.int c, .int i, .int j]) (rest := [.int (-2)]) (c7_occurrence_wlo l g H.size y y_refused y_document y_variables y_nodes y_node y_master y_isSet y_setMany y_setFrom y_setUsed y_setText y_atStop y_isFresh y_then y_choiceMany y_choiceFrom y_choiceLong y_choiceBytes y_text y_open y_shown y_nextNode y_endNode y_made y_beganAt y_ofNode y_isOwn y_begin y_size y_holding y_kept c i j h1 h2 h3 h4 h5) cw_L_88 [0, 1] rfl rfl 0 kl7 rfl rfl rfl (Nat.le_of_ble_eq_true rfl) (Nat.le_of_ble_eq_true rfl) rfl hl.1 rfl (Nat.le_of_ble_eq_true rfl) dL_law_556 (Nat.le_of_ble_eq_true rfl) (Nat.le_of_ble_eq_true rfl)) (fun _ H locs h => ?_)
  have h : ST g (LA s) s [] H locs := h
  refine lv_icmp_eq (tgt := 660) hx hb dL_law_559 (by decide) (fun c_1 => ?_) (fun c_1 => absurd (by decide) c_1)
  exact law_tail X hX hbl h (lv_sub hl [0, 3] rfl) (Nat.le_of_ble_eq_true rfl) (Nat.le_of_ble_eq_true rfl)

set_option maxHeartbeats 4000000 in
set_option maxRecDepth 100000 in
theorem lw_occurrence_whi {nm : String} {g : GE} {pp : Program} {l : Launch} {ee : Env} {s : State} {m : MethodId} {bb : List Frame} {mm : Method} {cd : Code} {bs : Nat} {xs : Nat → Int32} {H : Heap} {locs : List Loc} {ls : Array Slot} (X : CX g pp s m mm cd #[Value.ref bs] cL_law 4 RL nm ret (LA s)) (hX : va_X bs 4 xs s s.heap) (hbl : bs < s.heap.size) {y x tx lk pa nO dO y_refused y_document y_variables y_nodes y_node y_master y_isSet y_setMany y_setFrom y_setUsed y_setText y_atStop y_isFresh y_then y_choiceMany y_choiceFrom y_choiceLong y_choiceBytes y_text y_open y_shown y_nextNode y_endNode y_made y_beganAt y_ofNode y_isOwn y_begin y_size y_holding y_kept : Nat} (h : ST g (LA s) s [(x, .inr (6, [.ref tx, .ref lk, .ref pa, .int 0, .ref nO, .ref dO, .int 0, .int 0, .int 0])), (y, .inr (7, [.ref y_refused, .ref y_document, .int 0, .int 0, .ref y_variables, .int 0, .ref y_nodes, .ref y_node, .ref y_master, .ref y_isSet, .ref y_setMany, .ref y_setFrom, .ref y_setUsed, .ref y_setText, .ref y_atStop, .ref y_isFresh, .ref y_then, .ref y_choiceMany, .ref y_choiceFrom, .ref y_choiceLong, .ref y_choiceBytes, .int 0, .ref y_text, .int 0, .int 0, .int 0, .int 0, .ref y_open, .int 0, .ref y_shown, .int 0, .int 0, .ref y_nextNode, .ref y_endNode, .ref y_made, .ref y_beganAt, .ref y_ofNode, .ref y_isOwn, .int 0, .ref y_begin, .ref y_size, .ref y_holding, .int 0, .ref y_kept, .int 0])), (y_refused, .inl (g.2 1, 3, .inl (fun _ => 0)))] H locs) (hl : lv_has ls 4 [(3, .int 0), (2, .ref y), (1, .ref x), (0, .ref bs)]) {c : Int32} {i : Int32} {j : Int32} (e1 : xs 1 = c) (e2 : xs 2 = i) (e3 : xs 3 = j) (h1 : ¬ c < 0) (h2 : ¬ 9 < c) (h3 : ¬ 10 ≤ c) (h4 : ¬ i < 0) (h5 : ¬ j < 0) (h6 : 3 < j) : W pp l ee room_1 s m #[Value.ref bs] bb mm cd H locs 973 728835 (lw_Z bb #[Value.ref bs] s) (F0 m 521 ls []) := by
  have hx := X.1
  have hb := X.2.1
  refine lv_aload_n hx hb dL_law_521 rfl (lv_at hl 2 rfl) ?_
  refine lv_aload_n hx hb dL_law_522 rfl (lv_at hl 3 rfl) ?_
  refine lv_iload_n hx hb dL_law_523 rfl (lv_at hl 0 rfl) ?_
  refine lv_iconst (v := 1) hx hb dL_law_524 (by decide) ?_
  refine lv_iadd hx hb dL_law_525 ?_
  refine r_vi (y := 1) (by decide) ?_
  refine r_sld X hX hbl h (v := xs 1) (vp_lit (by decide +kernel)) rfl dL_law_526 ?_
  refine r_vi (y := c) e1 ?_
  refine lv_aload_n hx hb dL_law_527 rfl (lv_at hl 3 rfl) ?_
  refine lv_iload_n hx hb dL_law_528 rfl (lv_at hl 0 rfl) ?_
  refine lv_iconst (v := 2) hx hb dL_law_529 (by decide) ?_
  refine lv_iadd hx hb dL_law_530 ?_
  refine r_vi (y := 2) (by decide) ?_
  refine r_sld X hX hbl h (v := xs 2) (vp_lit (by decide +kernel)) rfl dL_law_531 ?_
  refine r_vi (y := i) e2 ?_
  refine lv_aload_n hx hb dL_law_532 rfl (lv_at hl 3 rfl) ?_
  refine lv_iload_n hx hb dL_law_533 rfl (lv_at hl 0 rfl) ?_
  refine lv_iconst (v := 3) hx hb dL_law_534 (by decide) ?_
  refine lv_iadd hx hb dL_law_535 ?_
  refine r_vi (y := 3) (by decide) ?_
  refine r_sld X hX hbl h (v := xs 3) (vp_lit (by decide +kernel)) rfl dL_law_536 ?_
  refine r_vi (y := j) e3 ?_
  refine k_i X h [0] [1, 2] (wr := [(y, .inr (7, [.ref y_refused, .ref y_document, .int 0, .int 0, .ref y_variables, .int 0, .ref y_nodes, .ref y_node, .ref y_master, .ref y_isSet, .ref y_setMany, .ref y_setFrom, .ref y_setUsed, .ref y_setText, .ref y_atStop, .ref y_isFresh, .ref y_then, .ref y_choiceMany, .ref y_choiceFrom, .ref y_choiceLong, .ref y_choiceBytes, .int 0, .ref y_text, .int 0, .int 0, .int 0, .int 0, .ref y_open, .int 0, .ref y_shown, .int 0, .int 0, .ref y_nextNode, .ref y_endNode, .ref y_made, .ref y_beganAt, .ref y_ofNode, .ref y_isOwn, .int 0, .ref y_begin, .ref y_size, .ref y_holding, .int 0, .ref y_kept, .int 0])), (y_refused, .inl (g.2 1, 3, .inl (fun _ => 0)))]) rfl rfl rfl (by decide) 973 728835 (Nat.le_of_ble_eq_true rfl) (Nat.le_of_ble_eq_true rfl) (k_runV X h (As := [.int c, .int i, .int j]) (rest := []) (c6_occurrence_whi l g H.size x tx lk pa nO dO c i j h1 h2 h3 h4 h5 h6) cw_L_85 [0] rfl rfl 0 kl6 rfl rfl rfl (Nat.le_of_ble_eq_true rfl) (Nat.le_of_ble_eq_true rfl) rfl hl.1 rfl (Nat.le_of_ble_eq_true rfl) dL_law_537 (Nat.le_of_ble_eq_true rfl) (Nat.le_of_ble_eq_true rfl)) (fun _ H locs h => ?_)
  have h : ST g (LA s) s [(y, .inr (7, [.ref y_refused, .ref y_document, .int 0, .int 0, .ref y_variables, .int 0, .ref y_nodes, .ref y_node, .ref y_master, .ref y_isSet, .ref y_setMany, .ref y_setFrom, .ref y_setUsed, .ref y_setText, .ref y_atStop, .ref y_isFresh, .ref y_then, .ref y_choiceMany, .ref y_choiceFrom, .ref y_choiceLong, .ref y_choiceBytes, .int 0, .ref y_text, .int 0, .int 0, .int 0, .int 0, .ref y_open, .int 0, .ref y_shown, .int 0, .int 0, .ref y_nextNode, .ref y_endNode, .ref y_made, .ref y_beganAt, .ref y_ofNode, .ref y_isOwn, .int 0, .ref y_begin, .ref y_size, .ref y_holding, .int 0, .ref y_kept, .int 0])), (y_refused, .inl (g.2 1, 3, .inl (fun _ => 0)))] H locs := h
  refine lv_aload_n hx hb dL_law_540 rfl (lv_at hl 1 rfl) ?_
  refine lv_aload_n hx hb dL_law_541 rfl (lv_at hl 3 rfl) ?_
  refine lv_iload_n hx hb dL_law_542 rfl (lv_at hl 0 rfl) ?_
  refine lv_iconst (v := 1) hx hb dL_law_543 (by decide) ?_
  refine lv_iadd hx hb dL_law_544 ?_
  refine r_vi (y := 1) (by decide) ?_
  refine r_sld X hX hbl h (v := xs 1) (vp_lit (by decide +kernel)) rfl dL_law_545 ?_
  refine r_vi (y := c) e1 ?_
  refine lv_aload_n hx hb dL_law_546 rfl (lv_at hl 3 rfl) ?_
  refine lv_iload_n hx hb dL_law_547 rfl (lv_at hl 0 rfl) ?_
  refine lv_iconst (v := 2) hx hb dL_law_548 (by decide) ?_
  refine lv_iadd hx hb dL_law_549 ?_
  refine r_vi (y := 2) (by decide) ?_
  refine r_sld X hX hbl h (v := xs 2) (vp_lit (by decide +kernel)) rfl dL_law_550 ?_
  refine r_vi (y := i) e2 ?_
  refine lv_aload_n hx hb dL_law_551 rfl (lv_at hl 3 rfl) ?_
  refine lv_iload_n hx hb dL_law_552 rfl (lv_at hl 0 rfl) ?_
  refine lv_iconst (v := 3) hx hb dL_law_553 (by decide) ?_
  refine lv_iadd hx hb dL_law_554 ?_
  refine r_vi (y := 3) (by decide) ?_
  refine r_sld X hX hbl h (v := xs 3) (vp_lit (by decide +kernel)) rfl dL_law_555 ?_
  refine r_vi (y := j) e3 ?_
  refine k_i X h [0, 1] [] (wr := []) rfl rfl rfl (by decide) 973 728835 (Nat.le_of_ble_eq_true rfl) (Nat.le_of_ble_eq_true rfl) (k_runV X h (As := [.int c, .int i, .int j]) (rest := [.int (-2)]) (c7_occurrence_whi l g H.size y y_refused y_document y_variables y_nodes y_node y_master y_isSet y_setMany y_setFrom y_setUsed y_setText y_atStop y_isFresh y_then y_choiceMany y_choiceFrom y_choiceLong y_choiceBytes y_text y_open y_shown y_nextNode y_endNode y_made y_beganAt y_ofNode y_isOwn y_begin y_size y_holding y_kept c i j h1 h2 h3 h4 h5 h6) cw_L_88 [0, 1] rfl rfl 0 kl7 rfl rfl rfl (Nat.le_of_ble_eq_true rfl) (Nat.le_of_ble_eq_true rfl) rfl hl.1 rfl (Nat.le_of_ble_eq_true rfl) dL_law_556 (Nat.le_of_ble_eq_true rfl) (Nat.le_of_ble_eq_true rfl)) (fun _ H locs h => ?_)
  have h : ST g (LA s) s [] H locs := h
  refine lv_icmp_eq (tgt := 660) hx hb dL_law_559 (by decide) (fun c_1 => ?_) (fun c_1 => absurd (by decide) c_1)
  exact law_tail X hX hbl h (lv_sub hl [0, 3] rfl) (Nat.le_of_ble_eq_true rfl) (Nat.le_of_ble_eq_true rfl)

set_option maxHeartbeats 4000000 in
set_option maxRecDepth 100000 in
theorem lw_occurrence_ok {nm : String} {g : GE} {pp : Program} {l : Launch} {ee : Env} {s : State} {m : MethodId} {bb : List Frame} {mm : Method} {cd : Code} {bs : Nat} {xs : Nat → Int32} {H : Heap} {locs : List Loc} {ls : Array Slot} (X : CX g pp s m mm cd #[Value.ref bs] cL_law 4 RL nm ret (LA s)) (hX : va_X bs 4 xs s s.heap) (hbl : bs < s.heap.size) {y x tx lk pa nO dO np nv ns nsh y_refused y_document y_variables y_nodes y_node y_master y_isSet y_setMany y_setFrom y_setUsed y_setText y_atStop y_isFresh y_then y_choiceMany y_choiceFrom y_choiceLong y_choiceBytes y_text y_open y_shown y_nextNode y_endNode y_made y_beganAt y_ofNode y_isOwn y_begin y_size y_holding y_kept : Nat} (h : ST g (LA s) s [(x, .inr (6, [.ref tx, .ref lk, .ref pa, .int 0, .ref nO, .ref dO, .int 0, .int 0, .int 0])), (nO, .inr (4, [.ref np, .int 0, .ref nv, .ref ns, .int 0, .ref nsh])), (y, .inr (7, [.ref y_refused, .ref y_document, .int 0, .int 0, .ref y_variables, .int 0, .ref y_nodes, .ref y_node, .ref y_master, .ref y_isSet, .ref y_setMany, .ref y_setFrom, .ref y_setUsed, .ref y_setText, .ref y_atStop, .ref y_isFresh, .ref y_then, .ref y_choiceMany, .ref y_choiceFrom, .ref y_choiceLong, .ref y_choiceBytes, .int 0, .ref y_text, .int 0, .int 0, .int 0, .int 0, .ref y_open, .int 0, .ref y_shown, .int 0, .int 0, .ref y_nextNode, .ref y_endNode, .ref y_made, .ref y_beganAt, .ref y_ofNode, .ref y_isOwn, .int 0, .ref y_begin, .ref y_size, .ref y_holding, .int 0, .ref y_kept, .int 0])), (y_refused, .inl (g.2 1, 3, .inl (fun _ => 0)))] H locs) (hl : lv_has ls 4 [(3, .int 0), (2, .ref y), (1, .ref x), (0, .ref bs)]) {c : Int32} {i : Int32} {j : Int32} (e1 : xs 1 = c) (e2 : xs 2 = i) (e3 : xs 3 = j) (h1 : ¬ c < 0) (h2 : ¬ 9 < c) (h3 : ¬ 10 ≤ c) (h4 : ¬ i < 0) (h5 : ¬ j < 0) (h6 : ¬ 3 < j) : W pp l ee room_1 s m #[Value.ref bs] bb mm cd H locs 973 728835 (lw_Z bb #[Value.ref bs] s) (F0 m 521 ls []) := by
  have hx := X.1
  have hb := X.2.1
  refine lv_aload_n hx hb dL_law_521 rfl (lv_at hl 2 rfl) ?_
  refine lv_aload_n hx hb dL_law_522 rfl (lv_at hl 3 rfl) ?_
  refine lv_iload_n hx hb dL_law_523 rfl (lv_at hl 0 rfl) ?_
  refine lv_iconst (v := 1) hx hb dL_law_524 (by decide) ?_
  refine lv_iadd hx hb dL_law_525 ?_
  refine r_vi (y := 1) (by decide) ?_
  refine r_sld X hX hbl h (v := xs 1) (vp_lit (by decide +kernel)) rfl dL_law_526 ?_
  refine r_vi (y := c) e1 ?_
  refine lv_aload_n hx hb dL_law_527 rfl (lv_at hl 3 rfl) ?_
  refine lv_iload_n hx hb dL_law_528 rfl (lv_at hl 0 rfl) ?_
  refine lv_iconst (v := 2) hx hb dL_law_529 (by decide) ?_
  refine lv_iadd hx hb dL_law_530 ?_
  refine r_vi (y := 2) (by decide) ?_
  refine r_sld X hX hbl h (v := xs 2) (vp_lit (by decide +kernel)) rfl dL_law_531 ?_
  refine r_vi (y := i) e2 ?_
  refine lv_aload_n hx hb dL_law_532 rfl (lv_at hl 3 rfl) ?_
  refine lv_iload_n hx hb dL_law_533 rfl (lv_at hl 0 rfl) ?_
  refine lv_iconst (v := 3) hx hb dL_law_534 (by decide) ?_
  refine lv_iadd hx hb dL_law_535 ?_
  refine r_vi (y := 3) (by decide) ?_
  refine r_sld X hX hbl h (v := xs 3) (vp_lit (by decide +kernel)) rfl dL_law_536 ?_
  refine r_vi (y := j) e3 ?_
  refine k_i X h [0, 1] [2, 3] (wr := [(y, .inr (7, [.ref y_refused, .ref y_document, .int 0, .int 0, .ref y_variables, .int 0, .ref y_nodes, .ref y_node, .ref y_master, .ref y_isSet, .ref y_setMany, .ref y_setFrom, .ref y_setUsed, .ref y_setText, .ref y_atStop, .ref y_isFresh, .ref y_then, .ref y_choiceMany, .ref y_choiceFrom, .ref y_choiceLong, .ref y_choiceBytes, .int 0, .ref y_text, .int 0, .int 0, .int 0, .int 0, .ref y_open, .int 0, .ref y_shown, .int 0, .int 0, .ref y_nextNode, .ref y_endNode, .ref y_made, .ref y_beganAt, .ref y_ofNode, .ref y_isOwn, .int 0, .ref y_begin, .ref y_size, .ref y_holding, .int 0, .ref y_kept, .int 0])), (y_refused, .inl (g.2 1, 3, .inl (fun _ => 0)))]) rfl rfl rfl (by decide) 973 728835 (Nat.le_of_ble_eq_true rfl) (Nat.le_of_ble_eq_true rfl) (k_runV X h (As := [.int c, .int i, .int j]) (rest := []) (c6_occurrence_ok l g H.size x tx lk pa nO dO np nv ns nsh c i j h1 h2 h3 h4 h5 h6) cw_L_85 [0, 1] rfl rfl 0 kl6 rfl rfl rfl (Nat.le_of_ble_eq_true rfl) (Nat.le_of_ble_eq_true rfl) rfl hl.1 rfl (Nat.le_of_ble_eq_true rfl) dL_law_537 (Nat.le_of_ble_eq_true rfl) (Nat.le_of_ble_eq_true rfl)) (fun _ H locs h => ?_)
  have h : ST g (LA s) s [(y, .inr (7, [.ref y_refused, .ref y_document, .int 0, .int 0, .ref y_variables, .int 0, .ref y_nodes, .ref y_node, .ref y_master, .ref y_isSet, .ref y_setMany, .ref y_setFrom, .ref y_setUsed, .ref y_setText, .ref y_atStop, .ref y_isFresh, .ref y_then, .ref y_choiceMany, .ref y_choiceFrom, .ref y_choiceLong, .ref y_choiceBytes, .int 0, .ref y_text, .int 0, .int 0, .int 0, .int 0, .ref y_open, .int 0, .ref y_shown, .int 0, .int 0, .ref y_nextNode, .ref y_endNode, .ref y_made, .ref y_beganAt, .ref y_ofNode, .ref y_isOwn, .int 0, .ref y_begin, .ref y_size, .ref y_holding, .int 0, .ref y_kept, .int 0])), (y_refused, .inl (g.2 1, 3, .inl (fun _ => 0)))] H locs := h
  refine lv_aload_n hx hb dL_law_540 rfl (lv_at hl 1 rfl) ?_
  refine lv_aload_n hx hb dL_law_541 rfl (lv_at hl 3 rfl) ?_
  refine lv_iload_n hx hb dL_law_542 rfl (lv_at hl 0 rfl) ?_
  refine lv_iconst (v := 1) hx hb dL_law_543 (by decide) ?_
  refine lv_iadd hx hb dL_law_544 ?_
  refine r_vi (y := 1) (by decide) ?_
  refine r_sld X hX hbl h (v := xs 1) (vp_lit (by decide +kernel)) rfl dL_law_545 ?_
  refine r_vi (y := c) e1 ?_
  refine lv_aload_n hx hb dL_law_546 rfl (lv_at hl 3 rfl) ?_
  refine lv_iload_n hx hb dL_law_547 rfl (lv_at hl 0 rfl) ?_
  refine lv_iconst (v := 2) hx hb dL_law_548 (by decide) ?_
  refine lv_iadd hx hb dL_law_549 ?_
  refine r_vi (y := 2) (by decide) ?_
  refine r_sld X hX hbl h (v := xs 2) (vp_lit (by decide +kernel)) rfl dL_law_550 ?_
  refine r_vi (y := i) e2 ?_
  refine lv_aload_n hx hb dL_law_551 rfl (lv_at hl 3 rfl) ?_
  refine lv_iload_n hx hb dL_law_552 rfl (lv_at hl 0 rfl) ?_
  refine lv_iconst (v := 3) hx hb dL_law_553 (by decide) ?_
  refine lv_iadd hx hb dL_law_554 ?_
  refine r_vi (y := 3) (by decide) ?_
  refine r_sld X hX hbl h (v := xs 3) (vp_lit (by decide +kernel)) rfl dL_law_555 ?_
  refine r_vi (y := j) e3 ?_
  refine k_i X h [0, 1] [] (wr := []) rfl rfl rfl (by decide) 973 728835 (Nat.le_of_ble_eq_true rfl) (Nat.le_of_ble_eq_true rfl) (k_runV X h (As := [.int c, .int i, .int j]) (rest := [.int (-3)]) (c7_occurrence_ok l g H.size y y_refused y_document y_variables y_nodes y_node y_master y_isSet y_setMany y_setFrom y_setUsed y_setText y_atStop y_isFresh y_then y_choiceMany y_choiceFrom y_choiceLong y_choiceBytes y_text y_open y_shown y_nextNode y_endNode y_made y_beganAt y_ofNode y_isOwn y_begin y_size y_holding y_kept c i j h1 h2 h3 h4 h5 h6) cw_L_88 [0, 1] rfl rfl 0 kl7 rfl rfl rfl (Nat.le_of_ble_eq_true rfl) (Nat.le_of_ble_eq_true rfl) rfl hl.1 rfl (Nat.le_of_ble_eq_true rfl) dL_law_556 (Nat.le_of_ble_eq_true rfl) (Nat.le_of_ble_eq_true rfl)) (fun _ H locs h => ?_)
  have h : ST g (LA s) s [] H locs := h
  refine lv_icmp_eq (tgt := 660) hx hb dL_law_559 (by decide) (fun c_1 => ?_) (fun c_1 => absurd (by decide) c_1)
  exact law_tail X hX hbl h (lv_sub hl [0, 3] rfl) (Nat.le_of_ble_eq_true rfl) (Nat.le_of_ble_eq_true rfl)

set_option maxHeartbeats 4000000 in
set_option maxRecDepth 100000 in
theorem lw_unlike {nm : String} {g : GE} {pp : Program} {l : Launch} {ee : Env} {s : State} {m : MethodId} {bb : List Frame} {mm : Method} {cd : Code} {bs : Nat} {xs : Nat → Int32} {H : Heap} {locs : List Loc} {ls : Array Slot} (X : CX g pp s m mm cd #[Value.ref bs] cL_law 4 RL nm ret (LA s)) (hX : va_X bs 4 xs s s.heap) (hbl : bs < s.heap.size) {y x tx lk pa nO dO np nv ns nsh y_refused y_document y_variables y_nodes y_node y_master y_isSet y_setMany y_setFrom y_setUsed y_setText y_atStop y_isFresh y_then y_choiceMany y_choiceFrom y_choiceLong y_choiceBytes y_text y_open y_shown y_nextNode y_endNode y_made y_beganAt y_ofNode y_isOwn y_begin y_size y_holding y_kept : Nat} (h : ST g (LA s) s [(x, .inr (6, [.ref tx, .ref lk, .ref pa, .int 0, .ref nO, .ref dO, .int 0, .int 0, .int 0])), (nO, .inr (4, [.ref np, .int 0, .ref nv, .ref ns, .int 0, .ref nsh])), (y, .inr (7, [.ref y_refused, .ref y_document, .int 0, .int 0, .ref y_variables, .int 0, .ref y_nodes, .ref y_node, .ref y_master, .ref y_isSet, .ref y_setMany, .ref y_setFrom, .ref y_setUsed, .ref y_setText, .ref y_atStop, .ref y_isFresh, .ref y_then, .ref y_choiceMany, .ref y_choiceFrom, .ref y_choiceLong, .ref y_choiceBytes, .int 0, .ref y_text, .int 0, .int 0, .int 0, .int 0, .ref y_open, .int 0, .ref y_shown, .int 0, .int 0, .ref y_nextNode, .ref y_endNode, .ref y_made, .ref y_beganAt, .ref y_ofNode, .ref y_isOwn, .int 0, .ref y_begin, .ref y_size, .ref y_holding, .int 0, .ref y_kept, .int 0]))] H locs) (hl : lv_has ls 4 [(3, .int 0), (2, .ref y), (1, .ref x), (0, .ref bs)]) : W pp l ee room_1 s m #[Value.ref bs] bb mm cd H locs 973 728835 (lw_Z bb #[Value.ref bs] s) (F0 m 564 ls []) := by
  have hx := X.1
  have hb := X.2.1
  refine lv_aload_n hx hb dL_law_564 rfl (lv_at hl 2 rfl) ?_
  refine k_i X h [0, 1] [2] (wr := [(y, .inr (7, [.ref y_refused, .ref y_document, .int 0, .int 0, .ref y_variables, .int 0, .ref y_nodes, .ref y_node, .ref y_master, .ref y_isSet, .ref y_setMany, .ref y_setFrom, .ref y_setUsed, .ref y_setText, .ref y_atStop, .ref y_isFresh, .ref y_then, .ref y_choiceMany, .ref y_choiceFrom, .ref y_choiceLong, .ref y_choiceBytes, .int 0, .ref y_text, .int 0, .int 0, .int 0, .int 0, .ref y_open, .int 0, .ref y_shown, .int 0, .int 0, .ref y_nextNode, .ref y_endNode, .ref y_made, .ref y_beganAt, .ref y_ofNode, .ref y_isOwn, .int 0, .ref y_begin, .ref y_size, .ref y_holding, .int 0, .ref y_kept, .int 0]))]) rfl rfl rfl (by decide) 973 728835 (Nat.le_of_ble_eq_true rfl) (Nat.le_of_ble_eq_true rfl) (k_runV X h (As := []) (rest := []) (c6_unlike l g H.size x tx lk pa nO dO np nv ns nsh) cw_L_89 [0, 1] rfl rfl 0 kl6 rfl rfl rfl (Nat.le_of_ble_eq_true rfl) (Nat.le_of_ble_eq_true rfl) rfl hl.1 rfl (Nat.le_of_ble_eq_true rfl) dL_law_565 (Nat.le_of_ble_eq_true rfl) (Nat.le_of_ble_eq_true rfl)) (fun _ H locs h => ?_)
  have h : ST g (LA s) s [(y, .inr (7, [.ref y_refused, .ref y_document, .int 0, .int 0, .ref y_variables, .int 0, .ref y_nodes, .ref y_node, .ref y_master, .ref y_isSet, .ref y_setMany, .ref y_setFrom, .ref y_setUsed, .ref y_setText, .ref y_atStop, .ref y_isFresh, .ref y_then, .ref y_choiceMany, .ref y_choiceFrom, .ref y_choiceLong, .ref y_choiceBytes, .int 0, .ref y_text, .int 0, .int 0, .int 0, .int 0, .ref y_open, .int 0, .ref y_shown, .int 0, .int 0, .ref y_nextNode, .ref y_endNode, .ref y_made, .ref y_beganAt, .ref y_ofNode, .ref y_isOwn, .int 0, .ref y_begin, .ref y_size, .ref y_holding, .int 0, .ref y_kept, .int 0]))] H locs := h
  refine lv_aload_n hx hb dL_law_568 rfl (lv_at hl 1 rfl) ?_
  refine k_i X h [0] [] (wr := []) rfl rfl rfl (by decide) 973 728835 (Nat.le_of_ble_eq_true rfl) (Nat.le_of_ble_eq_true rfl) (k_runV X h (As := []) (rest := [.int 0]) (c7_unlike l g H.size y y_refused y_document y_variables y_nodes y_node y_master y_isSet y_setMany y_setFrom y_setUsed y_setText y_atStop y_isFresh y_then y_choiceMany y_choiceFrom y_choiceLong y_choiceBytes y_text y_open y_shown y_nextNode y_endNode y_made y_beganAt y_ofNode y_isOwn y_begin y_size y_holding y_kept) cw_L_92 [0] rfl rfl 0 kl7 rfl rfl rfl (Nat.le_of_ble_eq_true rfl) (Nat.le_of_ble_eq_true rfl) rfl hl.1 rfl (Nat.le_of_ble_eq_true rfl) dL_law_569 (Nat.le_of_ble_eq_true rfl) (Nat.le_of_ble_eq_true rfl)) (fun _ H locs h => ?_)
  have h : ST g (LA s) s [] H locs := h
  refine lv_icmp_eq (tgt := 660) hx hb dL_law_572 (by decide) (fun c_1 => ?_) (fun c_1 => absurd (by decide) c_1)
  exact law_tail X hX hbl h (lv_sub hl [0, 3] rfl) (Nat.le_of_ble_eq_true rfl) (Nat.le_of_ble_eq_true rfl)

set_option maxHeartbeats 4000000 in
set_option maxRecDepth 100000 in
theorem lw_variableAt_lo {nm : String} {g : GE} {pp : Program} {l : Launch} {ee : Env} {s : State} {m : MethodId} {bb : List Frame} {mm : Method} {cd : Code} {bs : Nat} {xs : Nat → Int32} {H : Heap} {locs : List Loc} {ls : Array Slot} (X : CX g pp s m mm cd #[Value.ref bs] cL_law 4 RL nm ret (LA s)) (hX : va_X bs 4 xs s s.heap) (hbl : bs < s.heap.size) {y x tx lk pa nO dO y_refused y_document y_variables y_nodes y_node y_master y_isSet y_setMany y_setFrom y_setUsed y_setText y_atStop y_isFresh y_then y_choiceMany y_choiceFrom y_choiceLong y_choiceBytes y_text y_open y_shown y_nextNode y_endNode y_made y_beganAt y_ofNode y_isOwn y_begin y_size y_holding y_kept : Nat} (h : ST g (LA s) s [(x, .inr (6, [.ref tx, .ref lk, .ref pa, .int 0, .ref nO, .ref dO, .int 0, .int 0, .int 0])), (y, .inr (7, [.ref y_refused, .ref y_document, .int 0, .int 0, .ref y_variables, .int 0, .ref y_nodes, .ref y_node, .ref y_master, .ref y_isSet, .ref y_setMany, .ref y_setFrom, .ref y_setUsed, .ref y_setText, .ref y_atStop, .ref y_isFresh, .ref y_then, .ref y_choiceMany, .ref y_choiceFrom, .ref y_choiceLong, .ref y_choiceBytes, .int 0, .ref y_text, .int 0, .int 0, .int 0, .int 0, .ref y_open, .int 0, .ref y_shown, .int 0, .int 0, .ref y_nextNode, .ref y_endNode, .ref y_made, .ref y_beganAt, .ref y_ofNode, .ref y_isOwn, .int 0, .ref y_begin, .ref y_size, .ref y_holding, .int 0, .ref y_kept, .int 0])), (y_refused, .inl (g.2 1, 3, .inl (fun _ => 0)))] H locs) (hl : lv_has ls 4 [(3, .int 0), (2, .ref y), (1, .ref x), (0, .ref bs)]) {c : Int32} {i : Int32} (e1 : xs 1 = c) (e2 : xs 2 = i) (h1 : c < 0) : W pp l ee room_1 s m #[Value.ref bs] bb mm cd H locs 973 728835 (lw_Z bb #[Value.ref bs] s) (F0 m 577 ls []) := by
  have hx := X.1
  have hb := X.2.1
  refine lv_aload_n hx hb dL_law_577 rfl (lv_at hl 2 rfl) ?_
  refine lv_aload_n hx hb dL_law_578 rfl (lv_at hl 3 rfl) ?_
  refine lv_iload_n hx hb dL_law_579 rfl (lv_at hl 0 rfl) ?_
  refine lv_iconst (v := 1) hx hb dL_law_580 (by decide) ?_
  refine lv_iadd hx hb dL_law_581 ?_
  refine r_vi (y := 1) (by decide) ?_
  refine r_sld X hX hbl h (v := xs 1) (vp_lit (by decide +kernel)) rfl dL_law_582 ?_
  refine r_vi (y := c) e1 ?_
  refine lv_aload_n hx hb dL_law_583 rfl (lv_at hl 3 rfl) ?_
  refine lv_iload_n hx hb dL_law_584 rfl (lv_at hl 0 rfl) ?_
  refine lv_iconst (v := 2) hx hb dL_law_585 (by decide) ?_
  refine lv_iadd hx hb dL_law_586 ?_
  refine r_vi (y := 2) (by decide) ?_
  refine r_sld X hX hbl h (v := xs 2) (vp_lit (by decide +kernel)) rfl dL_law_587 ?_
  refine r_vi (y := i) e2 ?_
  refine k_i X h [0] [1, 2] (wr := [(y, .inr (7, [.ref y_refused, .ref y_document, .int 0, .int 0, .ref y_variables, .int 0, .ref y_nodes, .ref y_node, .ref y_master, .ref y_isSet, .ref y_setMany, .ref y_setFrom, .ref y_setUsed, .ref y_setText, .ref y_atStop, .ref y_isFresh, .ref y_then, .ref y_choiceMany, .ref y_choiceFrom, .ref y_choiceLong, .ref y_choiceBytes, .int 0, .ref y_text, .int 0, .int 0, .int 0, .int 0, .ref y_open, .int 0, .ref y_shown, .int 0, .int 0, .ref y_nextNode, .ref y_endNode, .ref y_made, .ref y_beganAt, .ref y_ofNode, .ref y_isOwn, .int 0, .ref y_begin, .ref y_size, .ref y_holding, .int 0, .ref y_kept, .int 0])), (y_refused, .inl (g.2 1, 3, .inl (fun _ => 0)))]) rfl rfl rfl (by decide) 973 728835 (Nat.le_of_ble_eq_true rfl) (Nat.le_of_ble_eq_true rfl) (k_runV X h (As := [.int c, .int i]) (rest := []) (c6_variableAt_lo l g H.size x tx lk pa nO dO c i h1) cw_L_93 [0] rfl rfl 0 kl6 rfl rfl rfl (Nat.le_of_ble_eq_true rfl) (Nat.le_of_ble_eq_true rfl) rfl hl.1 rfl (Nat.le_of_ble_eq_true rfl) dL_law_588 (Nat.le_of_ble_eq_true rfl) (Nat.le_of_ble_eq_true rfl)) (fun _ H locs h => ?_)
  have h : ST g (LA s) s [(y, .inr (7, [.ref y_refused, .ref y_document, .int 0, .int 0, .ref y_variables, .int 0, .ref y_nodes, .ref y_node, .ref y_master, .ref y_isSet, .ref y_setMany, .ref y_setFrom, .ref y_setUsed, .ref y_setText, .ref y_atStop, .ref y_isFresh, .ref y_then, .ref y_choiceMany, .ref y_choiceFrom, .ref y_choiceLong, .ref y_choiceBytes, .int 0, .ref y_text, .int 0, .int 0, .int 0, .int 0, .ref y_open, .int 0, .ref y_shown, .int 0, .int 0, .ref y_nextNode, .ref y_endNode, .ref y_made, .ref y_beganAt, .ref y_ofNode, .ref y_isOwn, .int 0, .ref y_begin, .ref y_size, .ref y_holding, .int 0, .ref y_kept, .int 0])), (y_refused, .inl (g.2 1, 3, .inl (fun _ => 0)))] H locs := h
  refine lv_aload_n hx hb dL_law_591 rfl (lv_at hl 1 rfl) ?_
  refine lv_aload_n hx hb dL_law_592 rfl (lv_at hl 3 rfl) ?_
  refine lv_iload_n hx hb dL_law_593 rfl (lv_at hl 0 rfl) ?_
  refine lv_iconst (v := 1) hx hb dL_law_594 (by decide) ?_
  refine lv_iadd hx hb dL_law_595 ?_
  refine r_vi (y := 1) (by decide) ?_
  refine r_sld X hX hbl h (v := xs 1) (vp_lit (by decide +kernel)) rfl dL_law_596 ?_
  refine r_vi (y := c) e1 ?_
  refine lv_aload_n hx hb dL_law_597 rfl (lv_at hl 3 rfl) ?_
  refine lv_iload_n hx hb dL_law_598 rfl (lv_at hl 0 rfl) ?_
  refine lv_iconst (v := 2) hx hb dL_law_599 (by decide) ?_
  refine lv_iadd hx hb dL_law_600 ?_
  refine r_vi (y := 2) (by decide) ?_
  refine r_sld X hX hbl h (v := xs 2) (vp_lit (by decide +kernel)) rfl dL_law_601 ?_
  refine r_vi (y := i) e2 ?_
  refine k_i X h [0, 1] [] (wr := []) rfl rfl rfl (by decide) 973 728835 (Nat.le_of_ble_eq_true rfl) (Nat.le_of_ble_eq_true rfl) (k_runV X h (As := [.int c, .int i]) (rest := [.int (-2)]) (c7_variableAt_lo l g H.size y y_refused y_document y_variables y_nodes y_node y_master y_isSet y_setMany y_setFrom y_setUsed y_setText y_atStop y_isFresh y_then y_choiceMany y_choiceFrom y_choiceLong y_choiceBytes y_text y_open y_shown y_nextNode y_endNode y_made y_beganAt y_ofNode y_isOwn y_begin y_size y_holding y_kept c i h1) cw_L_96 [0, 1] rfl rfl 0 kl7 rfl rfl rfl (Nat.le_of_ble_eq_true rfl) (Nat.le_of_ble_eq_true rfl) rfl hl.1 rfl (Nat.le_of_ble_eq_true rfl) dL_law_602 (Nat.le_of_ble_eq_true rfl) (Nat.le_of_ble_eq_true rfl)) (fun _ H locs h => ?_)
  have h : ST g (LA s) s [] H locs := h
  refine lv_icmp_eq (tgt := 660) hx hb dL_law_605 (by decide) (fun c_1 => ?_) (fun c_1 => absurd (by decide) c_1)
  exact law_tail X hX hbl h (lv_sub hl [0, 3] rfl) (Nat.le_of_ble_eq_true rfl) (Nat.le_of_ble_eq_true rfl)

set_option maxHeartbeats 4000000 in
set_option maxRecDepth 100000 in
theorem lw_variableAt_hi {nm : String} {g : GE} {pp : Program} {l : Launch} {ee : Env} {s : State} {m : MethodId} {bb : List Frame} {mm : Method} {cd : Code} {bs : Nat} {xs : Nat → Int32} {H : Heap} {locs : List Loc} {ls : Array Slot} (X : CX g pp s m mm cd #[Value.ref bs] cL_law 4 RL nm ret (LA s)) (hX : va_X bs 4 xs s s.heap) (hbl : bs < s.heap.size) {y x tx lk pa nO dO y_refused y_document y_variables y_nodes y_node y_master y_isSet y_setMany y_setFrom y_setUsed y_setText y_atStop y_isFresh y_then y_choiceMany y_choiceFrom y_choiceLong y_choiceBytes y_text y_open y_shown y_nextNode y_endNode y_made y_beganAt y_ofNode y_isOwn y_begin y_size y_holding y_kept : Nat} (h : ST g (LA s) s [(x, .inr (6, [.ref tx, .ref lk, .ref pa, .int 0, .ref nO, .ref dO, .int 0, .int 0, .int 0])), (y, .inr (7, [.ref y_refused, .ref y_document, .int 0, .int 0, .ref y_variables, .int 0, .ref y_nodes, .ref y_node, .ref y_master, .ref y_isSet, .ref y_setMany, .ref y_setFrom, .ref y_setUsed, .ref y_setText, .ref y_atStop, .ref y_isFresh, .ref y_then, .ref y_choiceMany, .ref y_choiceFrom, .ref y_choiceLong, .ref y_choiceBytes, .int 0, .ref y_text, .int 0, .int 0, .int 0, .int 0, .ref y_open, .int 0, .ref y_shown, .int 0, .int 0, .ref y_nextNode, .ref y_endNode, .ref y_made, .ref y_beganAt, .ref y_ofNode, .ref y_isOwn, .int 0, .ref y_begin, .ref y_size, .ref y_holding, .int 0, .ref y_kept, .int 0])), (y_refused, .inl (g.2 1, 3, .inl (fun _ => 0)))] H locs) (hl : lv_has ls 4 [(3, .int 0), (2, .ref y), (1, .ref x), (0, .ref bs)]) {c : Int32} {i : Int32} (e1 : xs 1 = c) (e2 : xs 2 = i) (h1 : ¬ c < 0) (h2 : 3 < c) (h3 : 4 ≤ c) : W pp l ee room_1 s m #[Value.ref bs] bb mm cd H locs 973 728835 (lw_Z bb #[Value.ref bs] s) (F0 m 577 ls []) := by
  have hx := X.1
  have hb := X.2.1
  refine lv_aload_n hx hb dL_law_577 rfl (lv_at hl 2 rfl) ?_
  refine lv_aload_n hx hb dL_law_578 rfl (lv_at hl 3 rfl) ?_
  refine lv_iload_n hx hb dL_law_579 rfl (lv_at hl 0 rfl) ?_
  refine lv_iconst (v := 1) hx hb dL_law_580 (by decide) ?_
  refine lv_iadd hx hb dL_law_581 ?_
  refine r_vi (y := 1) (by decide) ?_
  refine r_sld X hX hbl h (v := xs 1) (vp_lit (by decide +kernel)) rfl dL_law_582 ?_
  refine r_vi (y := c) e1 ?_
  refine lv_aload_n hx hb dL_law_583 rfl (lv_at hl 3 rfl) ?_
  refine lv_iload_n hx hb dL_law_584 rfl (lv_at hl 0 rfl) ?_
  refine lv_iconst (v := 2) hx hb dL_law_585 (by decide) ?_
  refine lv_iadd hx hb dL_law_586 ?_
  refine r_vi (y := 2) (by decide) ?_
  refine r_sld X hX hbl h (v := xs 2) (vp_lit (by decide +kernel)) rfl dL_law_587 ?_
  refine r_vi (y := i) e2 ?_
  refine k_i X h [0] [1, 2] (wr := [(y, .inr (7, [.ref y_refused, .ref y_document, .int 0, .int 0, .ref y_variables, .int 0, .ref y_nodes, .ref y_node, .ref y_master, .ref y_isSet, .ref y_setMany, .ref y_setFrom, .ref y_setUsed, .ref y_setText, .ref y_atStop, .ref y_isFresh, .ref y_then, .ref y_choiceMany, .ref y_choiceFrom, .ref y_choiceLong, .ref y_choiceBytes, .int 0, .ref y_text, .int 0, .int 0, .int 0, .int 0, .ref y_open, .int 0, .ref y_shown, .int 0, .int 0, .ref y_nextNode, .ref y_endNode, .ref y_made, .ref y_beganAt, .ref y_ofNode, .ref y_isOwn, .int 0, .ref y_begin, .ref y_size, .ref y_holding, .int 0, .ref y_kept, .int 0])), (y_refused, .inl (g.2 1, 3, .inl (fun _ => 0)))]) rfl rfl rfl (by decide) 973 728835 (Nat.le_of_ble_eq_true rfl) (Nat.le_of_ble_eq_true rfl) (k_runV X h (As := [.int c, .int i]) (rest := []) (c6_variableAt_hi l g H.size x tx lk pa nO dO c i h1 h2 h3) cw_L_93 [0] rfl rfl 0 kl6 rfl rfl rfl (Nat.le_of_ble_eq_true rfl) (Nat.le_of_ble_eq_true rfl) rfl hl.1 rfl (Nat.le_of_ble_eq_true rfl) dL_law_588 (Nat.le_of_ble_eq_true rfl) (Nat.le_of_ble_eq_true rfl)) (fun _ H locs h => ?_)
  have h : ST g (LA s) s [(y, .inr (7, [.ref y_refused, .ref y_document, .int 0, .int 0, .ref y_variables, .int 0, .ref y_nodes, .ref y_node, .ref y_master, .ref y_isSet, .ref y_setMany, .ref y_setFrom, .ref y_setUsed, .ref y_setText, .ref y_atStop, .ref y_isFresh, .ref y_then, .ref y_choiceMany, .ref y_choiceFrom, .ref y_choiceLong, .ref y_choiceBytes, .int 0, .ref y_text, .int 0, .int 0, .int 0, .int 0, .ref y_open, .int 0, .ref y_shown, .int 0, .int 0, .ref y_nextNode, .ref y_endNode, .ref y_made, .ref y_beganAt, .ref y_ofNode, .ref y_isOwn, .int 0, .ref y_begin, .ref y_size, .ref y_holding, .int 0, .ref y_kept, .int 0])), (y_refused, .inl (g.2 1, 3, .inl (fun _ => 0)))] H locs := h
  refine lv_aload_n hx hb dL_law_591 rfl (lv_at hl 1 rfl) ?_
  refine lv_aload_n hx hb dL_law_592 rfl (lv_at hl 3 rfl) ?_
  refine lv_iload_n hx hb dL_law_593 rfl (lv_at hl 0 rfl) ?_
  refine lv_iconst (v := 1) hx hb dL_law_594 (by decide) ?_
  refine lv_iadd hx hb dL_law_595 ?_
  refine r_vi (y := 1) (by decide) ?_
  refine r_sld X hX hbl h (v := xs 1) (vp_lit (by decide +kernel)) rfl dL_law_596 ?_
  refine r_vi (y := c) e1 ?_
  refine lv_aload_n hx hb dL_law_597 rfl (lv_at hl 3 rfl) ?_
  refine lv_iload_n hx hb dL_law_598 rfl (lv_at hl 0 rfl) ?_
  refine lv_iconst (v := 2) hx hb dL_law_599 (by decide) ?_
  refine lv_iadd hx hb dL_law_600 ?_
  refine r_vi (y := 2) (by decide) ?_
  refine r_sld X hX hbl h (v := xs 2) (vp_lit (by decide +kernel)) rfl dL_law_601 ?_
  refine r_vi (y := i) e2 ?_
  refine k_i X h [0, 1] [] (wr := []) rfl rfl rfl (by decide) 973 728835 (Nat.le_of_ble_eq_true rfl) (Nat.le_of_ble_eq_true rfl) (k_runV X h (As := [.int c, .int i]) (rest := [.int (-2)]) (c7_variableAt_hi l g H.size y y_refused y_document y_variables y_nodes y_node y_master y_isSet y_setMany y_setFrom y_setUsed y_setText y_atStop y_isFresh y_then y_choiceMany y_choiceFrom y_choiceLong y_choiceBytes y_text y_open y_shown y_nextNode y_endNode y_made y_beganAt y_ofNode y_isOwn y_begin y_size y_holding y_kept c i h1 h2 h3) cw_L_96 [0, 1] rfl rfl 0 kl7 rfl rfl rfl (Nat.le_of_ble_eq_true rfl) (Nat.le_of_ble_eq_true rfl) rfl hl.1 rfl (Nat.le_of_ble_eq_true rfl) dL_law_602 (Nat.le_of_ble_eq_true rfl) (Nat.le_of_ble_eq_true rfl)) (fun _ H locs h => ?_)
  have h : ST g (LA s) s [] H locs := h
  refine lv_icmp_eq (tgt := 660) hx hb dL_law_605 (by decide) (fun c_1 => ?_) (fun c_1 => absurd (by decide) c_1)
  exact law_tail X hX hbl h (lv_sub hl [0, 3] rfl) (Nat.le_of_ble_eq_true rfl) (Nat.le_of_ble_eq_true rfl)

set_option maxHeartbeats 4000000 in
set_option maxRecDepth 100000 in
theorem lw_variableAt_lo0 {nm : String} {g : GE} {pp : Program} {l : Launch} {ee : Env} {s : State} {m : MethodId} {bb : List Frame} {mm : Method} {cd : Code} {bs : Nat} {xs : Nat → Int32} {H : Heap} {locs : List Loc} {ls : Array Slot} (X : CX g pp s m mm cd #[Value.ref bs] cL_law 4 RL nm ret (LA s)) (hX : va_X bs 4 xs s s.heap) (hbl : bs < s.heap.size) {y x tx lk pa nO dO y_refused y_document y_variables y_nodes y_node y_master y_isSet y_setMany y_setFrom y_setUsed y_setText y_atStop y_isFresh y_then y_choiceMany y_choiceFrom y_choiceLong y_choiceBytes y_text y_open y_shown y_nextNode y_endNode y_made y_beganAt y_ofNode y_isOwn y_begin y_size y_holding y_kept : Nat} (h : ST g (LA s) s [(x, .inr (6, [.ref tx, .ref lk, .ref pa, .int 0, .ref nO, .ref dO, .int 0, .int 0, .int 0])), (y, .inr (7, [.ref y_refused, .ref y_document, .int 0, .int 0, .ref y_variables, .int 0, .ref y_nodes, .ref y_node, .ref y_master, .ref y_isSet, .ref y_setMany, .ref y_setFrom, .ref y_setUsed, .ref y_setText, .ref y_atStop, .ref y_isFresh, .ref y_then, .ref y_choiceMany, .ref y_choiceFrom, .ref y_choiceLong, .ref y_choiceBytes, .int 0, .ref y_text, .int 0, .int 0, .int 0, .int 0, .ref y_open, .int 0, .ref y_shown, .int 0, .int 0, .ref y_nextNode, .ref y_endNode, .ref y_made, .ref y_beganAt, .ref y_ofNode, .ref y_isOwn, .int 0, .ref y_begin, .ref y_size, .ref y_holding, .int 0, .ref y_kept, .int 0])), (y_refused, .inl (g.2 1, 3, .inl (fun _ => 0)))] H locs) (hl : lv_has ls 4 [(3, .int 0), (2, .ref y), (1, .ref x), (0, .ref bs)]) {i : Int32} (e1 : xs 1 = 0) (e2 : xs 2 = i) (h4 : i < 0) : W pp l ee room_1 s m #[Value.ref bs] bb mm cd H locs 973 728835 (lw_Z bb #[Value.ref bs] s) (F0 m 577 ls []) := by
  have hx := X.1
  have hb := X.2.1
  refine lv_aload_n hx hb dL_law_577 rfl (lv_at hl 2 rfl) ?_
  refine lv_aload_n hx hb dL_law_578 rfl (lv_at hl 3 rfl) ?_
  refine lv_iload_n hx hb dL_law_579 rfl (lv_at hl 0 rfl) ?_
  refine lv_iconst (v := 1) hx hb dL_law_580 (by decide) ?_
  refine lv_iadd hx hb dL_law_581 ?_
  refine r_vi (y := 1) (by decide) ?_
  refine r_sld X hX hbl h (v := xs 1) (vp_lit (by decide +kernel)) rfl dL_law_582 ?_
  refine r_vi (y := 0) e1 ?_
  refine lv_aload_n hx hb dL_law_583 rfl (lv_at hl 3 rfl) ?_
  refine lv_iload_n hx hb dL_law_584 rfl (lv_at hl 0 rfl) ?_
  refine lv_iconst (v := 2) hx hb dL_law_585 (by decide) ?_
  refine lv_iadd hx hb dL_law_586 ?_
  refine r_vi (y := 2) (by decide) ?_
  refine r_sld X hX hbl h (v := xs 2) (vp_lit (by decide +kernel)) rfl dL_law_587 ?_
  refine r_vi (y := i) e2 ?_
  refine k_i X h [0] [1, 2] (wr := [(y, .inr (7, [.ref y_refused, .ref y_document, .int 0, .int 0, .ref y_variables, .int 0, .ref y_nodes, .ref y_node, .ref y_master, .ref y_isSet, .ref y_setMany, .ref y_setFrom, .ref y_setUsed, .ref y_setText, .ref y_atStop, .ref y_isFresh, .ref y_then, .ref y_choiceMany, .ref y_choiceFrom, .ref y_choiceLong, .ref y_choiceBytes, .int 0, .ref y_text, .int 0, .int 0, .int 0, .int 0, .ref y_open, .int 0, .ref y_shown, .int 0, .int 0, .ref y_nextNode, .ref y_endNode, .ref y_made, .ref y_beganAt, .ref y_ofNode, .ref y_isOwn, .int 0, .ref y_begin, .ref y_size, .ref y_holding, .int 0, .ref y_kept, .int 0])), (y_refused, .inl (g.2 1, 3, .inl (fun _ => 0)))]) rfl rfl rfl (by decide) 973 728835 (Nat.le_of_ble_eq_true rfl) (Nat.le_of_ble_eq_true rfl) (k_runV X h (As := [.int 0, .int i]) (rest := []) (c6_variableAt_lo0 l g H.size x tx lk pa nO dO i h4) cw_L_93 [0] rfl rfl 0 kl6 rfl rfl rfl (Nat.le_of_ble_eq_true rfl) (Nat.le_of_ble_eq_true rfl) rfl hl.1 rfl (Nat.le_of_ble_eq_true rfl) dL_law_588 (Nat.le_of_ble_eq_true rfl) (Nat.le_of_ble_eq_true rfl)) (fun _ H locs h => ?_)
  have h : ST g (LA s) s [(y, .inr (7, [.ref y_refused, .ref y_document, .int 0, .int 0, .ref y_variables, .int 0, .ref y_nodes, .ref y_node, .ref y_master, .ref y_isSet, .ref y_setMany, .ref y_setFrom, .ref y_setUsed, .ref y_setText, .ref y_atStop, .ref y_isFresh, .ref y_then, .ref y_choiceMany, .ref y_choiceFrom, .ref y_choiceLong, .ref y_choiceBytes, .int 0, .ref y_text, .int 0, .int 0, .int 0, .int 0, .ref y_open, .int 0, .ref y_shown, .int 0, .int 0, .ref y_nextNode, .ref y_endNode, .ref y_made, .ref y_beganAt, .ref y_ofNode, .ref y_isOwn, .int 0, .ref y_begin, .ref y_size, .ref y_holding, .int 0, .ref y_kept, .int 0])), (y_refused, .inl (g.2 1, 3, .inl (fun _ => 0)))] H locs := h
  refine lv_aload_n hx hb dL_law_591 rfl (lv_at hl 1 rfl) ?_
  refine lv_aload_n hx hb dL_law_592 rfl (lv_at hl 3 rfl) ?_
  refine lv_iload_n hx hb dL_law_593 rfl (lv_at hl 0 rfl) ?_
  refine lv_iconst (v := 1) hx hb dL_law_594 (by decide) ?_
  refine lv_iadd hx hb dL_law_595 ?_
  refine r_vi (y := 1) (by decide) ?_
  refine r_sld X hX hbl h (v := xs 1) (vp_lit (by decide +kernel)) rfl dL_law_596 ?_
  refine r_vi (y := 0) e1 ?_
  refine lv_aload_n hx hb dL_law_597 rfl (lv_at hl 3 rfl) ?_
  refine lv_iload_n hx hb dL_law_598 rfl (lv_at hl 0 rfl) ?_
  refine lv_iconst (v := 2) hx hb dL_law_599 (by decide) ?_
  refine lv_iadd hx hb dL_law_600 ?_
  refine r_vi (y := 2) (by decide) ?_
  refine r_sld X hX hbl h (v := xs 2) (vp_lit (by decide +kernel)) rfl dL_law_601 ?_
  refine r_vi (y := i) e2 ?_
  refine k_i X h [0, 1] [] (wr := []) rfl rfl rfl (by decide) 973 728835 (Nat.le_of_ble_eq_true rfl) (Nat.le_of_ble_eq_true rfl) (k_runV X h (As := [.int 0, .int i]) (rest := [.int (-2)]) (c7_variableAt_lo0 l g H.size y y_refused y_document y_variables y_nodes y_node y_master y_isSet y_setMany y_setFrom y_setUsed y_setText y_atStop y_isFresh y_then y_choiceMany y_choiceFrom y_choiceLong y_choiceBytes y_text y_open y_shown y_nextNode y_endNode y_made y_beganAt y_ofNode y_isOwn y_begin y_size y_holding y_kept i h4) cw_L_96 [0, 1] rfl rfl 0 kl7 rfl rfl rfl (Nat.le_of_ble_eq_true rfl) (Nat.le_of_ble_eq_true rfl) rfl hl.1 rfl (Nat.le_of_ble_eq_true rfl) dL_law_602 (Nat.le_of_ble_eq_true rfl) (Nat.le_of_ble_eq_true rfl)) (fun _ H locs h => ?_)
  have h : ST g (LA s) s [] H locs := h
  refine lv_icmp_eq (tgt := 660) hx hb dL_law_605 (by decide) (fun c_1 => ?_) (fun c_1 => absurd (by decide) c_1)
  exact law_tail X hX hbl h (lv_sub hl [0, 3] rfl) (Nat.le_of_ble_eq_true rfl) (Nat.le_of_ble_eq_true rfl)

set_option maxHeartbeats 4000000 in
set_option maxRecDepth 100000 in
theorem lw_variableAt_ok0 {nm : String} {g : GE} {pp : Program} {l : Launch} {ee : Env} {s : State} {m : MethodId} {bb : List Frame} {mm : Method} {cd : Code} {bs : Nat} {xs : Nat → Int32} {H : Heap} {locs : List Loc} {ls : Array Slot} (X : CX g pp s m mm cd #[Value.ref bs] cL_law 4 RL nm ret (LA s)) (hX : va_X bs 4 xs s s.heap) (hbl : bs < s.heap.size) {y x tx lk pa nO dO np nv ns nsh nv0 nv1 nv2 nv3 nv0b y_refused y_document y_variables y_nodes y_node y_master y_isSet y_setMany y_setFrom y_setUsed y_setText y_atStop y_isFresh y_then y_choiceMany y_choiceFrom y_choiceLong y_choiceBytes y_text y_open y_shown y_nextNode y_endNode y_made y_beganAt y_ofNode y_isOwn y_begin y_size y_holding y_kept : Nat} (h : ST g (LA s) s [(x, .inr (6, [.ref tx, .ref lk, .ref pa, .int 0, .ref nO, .ref dO, .int 0, .int 0, .int 0])), (nO, .inr (4, [.ref np, .int 0, .ref nv, .ref ns, .int 0, .ref nsh])), (nv, .inl (g.2 4, 4, .inr (.inr (.inr (.inr (va_up (va_up (va_up (va_up (fun _ => none) 0 (some nv0)) 1 (some nv1)) 2 (some nv2)) 3 (some nv3))))))), (nv0, .inr (2, [.int 12, .ref nv0b, .int 0])), (y, .inr (7, [.ref y_refused, .ref y_document, .int 0, .int 0, .ref y_variables, .int 0, .ref y_nodes, .ref y_node, .ref y_master, .ref y_isSet, .ref y_setMany, .ref y_setFrom, .ref y_setUsed, .ref y_setText, .ref y_atStop, .ref y_isFresh, .ref y_then, .ref y_choiceMany, .ref y_choiceFrom, .ref y_choiceLong, .ref y_choiceBytes, .int 0, .ref y_text, .int 0, .int 0, .int 0, .int 0, .ref y_open, .int 0, .ref y_shown, .int 0, .int 0, .ref y_nextNode, .ref y_endNode, .ref y_made, .ref y_beganAt, .ref y_ofNode, .ref y_isOwn, .int 0, .ref y_begin, .ref y_size, .ref y_holding, .int 0, .ref y_kept, .int 0])), (y_variables, .inl (g.2 1, 52, .inl (fun _ => 0)))] H locs) (hl : lv_has ls 4 [(3, .int 0), (2, .ref y), (1, .ref x), (0, .ref bs)]) {i : Int32} (e1 : xs 1 = 0) (e2 : xs 2 = i) (h4 : ¬ i < 0) (h5 : 0 ≤ i) : W pp l ee room_1 s m #[Value.ref bs] bb mm cd H locs 973 728835 (lw_Z bb #[Value.ref bs] s) (F0 m 577 ls []) := by
  have hx := X.1
  have hb := X.2.1
  refine lv_aload_n hx hb dL_law_577 rfl (lv_at hl 2 rfl) ?_
  refine lv_aload_n hx hb dL_law_578 rfl (lv_at hl 3 rfl) ?_
  refine lv_iload_n hx hb dL_law_579 rfl (lv_at hl 0 rfl) ?_
  refine lv_iconst (v := 1) hx hb dL_law_580 (by decide) ?_
  refine lv_iadd hx hb dL_law_581 ?_
  refine r_vi (y := 1) (by decide) ?_
  refine r_sld X hX hbl h (v := xs 1) (vp_lit (by decide +kernel)) rfl dL_law_582 ?_
  refine r_vi (y := 0) e1 ?_
  refine lv_aload_n hx hb dL_law_583 rfl (lv_at hl 3 rfl) ?_
  refine lv_iload_n hx hb dL_law_584 rfl (lv_at hl 0 rfl) ?_
  refine lv_iconst (v := 2) hx hb dL_law_585 (by decide) ?_
  refine lv_iadd hx hb dL_law_586 ?_
  refine r_vi (y := 2) (by decide) ?_
  refine r_sld X hX hbl h (v := xs 2) (vp_lit (by decide +kernel)) rfl dL_law_587 ?_
  refine r_vi (y := i) e2 ?_
  refine k_i X h [0, 1, 2, 3] [4, 5] (wr := [(y, .inr (7, [.ref y_refused, .ref y_document, .int 0, .int 0, .ref y_variables, .int 0, .ref y_nodes, .ref y_node, .ref y_master, .ref y_isSet, .ref y_setMany, .ref y_setFrom, .ref y_setUsed, .ref y_setText, .ref y_atStop, .ref y_isFresh, .ref y_then, .ref y_choiceMany, .ref y_choiceFrom, .ref y_choiceLong, .ref y_choiceBytes, .int 0, .ref y_text, .int 0, .int 0, .int 0, .int 0, .ref y_open, .int 0, .ref y_shown, .int 0, .int 0, .ref y_nextNode, .ref y_endNode, .ref y_made, .ref y_beganAt, .ref y_ofNode, .ref y_isOwn, .int 0, .ref y_begin, .ref y_size, .ref y_holding, .int 0, .ref y_kept, .int 0])), (y_variables, .inl (g.2 1, 52, .inl (fun _ => 0)))]) rfl rfl rfl (by decide) 973 728835 (Nat.le_of_ble_eq_true rfl) (Nat.le_of_ble_eq_true rfl) (k_runV X h (As := [.int 0, .int i]) (rest := []) (c6_variableAt_ok0 l g H.size x tx lk pa nO dO np nv ns nsh nv0 nv1 nv2 nv3 nv0b i h4 h5) cw_L_93 [0, 1, 2, 3] rfl rfl 0 kl6 rfl rfl rfl (Nat.le_of_ble_eq_true rfl) (Nat.le_of_ble_eq_true rfl) rfl hl.1 rfl (Nat.le_of_ble_eq_true rfl) dL_law_588 (Nat.le_of_ble_eq_true rfl) (Nat.le_of_ble_eq_true rfl)) (fun _ H locs h => ?_)
  have h : ST g (LA s) s [(y, .inr (7, [.ref y_refused, .ref y_document, .int 0, .int 0, .ref y_variables, .int 0, .ref y_nodes, .ref y_node, .ref y_master, .ref y_isSet, .ref y_setMany, .ref y_setFrom, .ref y_setUsed, .ref y_setText, .ref y_atStop, .ref y_isFresh, .ref y_then, .ref y_choiceMany, .ref y_choiceFrom, .ref y_choiceLong, .ref y_choiceBytes, .int 0, .ref y_text, .int 0, .int 0, .int 0, .int 0, .ref y_open, .int 0, .ref y_shown, .int 0, .int 0, .ref y_nextNode, .ref y_endNode, .ref y_made, .ref y_beganAt, .ref y_ofNode, .ref y_isOwn, .int 0, .ref y_begin, .ref y_size, .ref y_holding, .int 0, .ref y_kept, .int 0])), (y_variables, .inl (g.2 1, 52, .inl (fun _ => 0)))] H locs := h
  refine lv_aload_n hx hb dL_law_591 rfl (lv_at hl 1 rfl) ?_
  refine lv_aload_n hx hb dL_law_592 rfl (lv_at hl 3 rfl) ?_
  refine lv_iload_n hx hb dL_law_593 rfl (lv_at hl 0 rfl) ?_
  refine lv_iconst (v := 1) hx hb dL_law_594 (by decide) ?_
  refine lv_iadd hx hb dL_law_595 ?_
  refine r_vi (y := 1) (by decide) ?_
  refine r_sld X hX hbl h (v := xs 1) (vp_lit (by decide +kernel)) rfl dL_law_596 ?_
  refine r_vi (y := 0) e1 ?_
  refine lv_aload_n hx hb dL_law_597 rfl (lv_at hl 3 rfl) ?_
  refine lv_iload_n hx hb dL_law_598 rfl (lv_at hl 0 rfl) ?_
  refine lv_iconst (v := 2) hx hb dL_law_599 (by decide) ?_
  refine lv_iadd hx hb dL_law_600 ?_
  refine r_vi (y := 2) (by decide) ?_
  refine r_sld X hX hbl h (v := xs 2) (vp_lit (by decide +kernel)) rfl dL_law_601 ?_
  refine r_vi (y := i) e2 ?_
  refine k_i X h [0, 1] [] (wr := []) rfl rfl rfl (by decide) 973 728835 (Nat.le_of_ble_eq_true rfl) (Nat.le_of_ble_eq_true rfl) (k_runV X h (As := [.int 0, .int i]) (rest := [.int (-1)]) (c7_variableAt_ok0 l g H.size y y_refused y_document y_variables y_nodes y_node y_master y_isSet y_setMany y_setFrom y_setUsed y_setText y_atStop y_isFresh y_then y_choiceMany y_choiceFrom y_choiceLong y_choiceBytes y_text y_open y_shown y_nextNode y_endNode y_made y_beganAt y_ofNode y_isOwn y_begin y_size y_holding y_kept i h4 h5) cw_L_96 [0, 1] rfl rfl 0 kl7 rfl rfl rfl (Nat.le_of_ble_eq_true rfl) (Nat.le_of_ble_eq_true rfl) rfl hl.1 rfl (Nat.le_of_ble_eq_true rfl) dL_law_602 (Nat.le_of_ble_eq_true rfl) (Nat.le_of_ble_eq_true rfl)) (fun _ H locs h => ?_)
  have h : ST g (LA s) s [] H locs := h
  refine lv_icmp_eq (tgt := 660) hx hb dL_law_605 (by decide) (fun c_1 => ?_) (fun c_1 => absurd (by decide) c_1)
  exact law_tail X hX hbl h (lv_sub hl [0, 3] rfl) (Nat.le_of_ble_eq_true rfl) (Nat.le_of_ble_eq_true rfl)

set_option maxHeartbeats 4000000 in
set_option maxRecDepth 100000 in
theorem lw_variableAt_lo1 {nm : String} {g : GE} {pp : Program} {l : Launch} {ee : Env} {s : State} {m : MethodId} {bb : List Frame} {mm : Method} {cd : Code} {bs : Nat} {xs : Nat → Int32} {H : Heap} {locs : List Loc} {ls : Array Slot} (X : CX g pp s m mm cd #[Value.ref bs] cL_law 4 RL nm ret (LA s)) (hX : va_X bs 4 xs s s.heap) (hbl : bs < s.heap.size) {y x tx lk pa nO dO y_refused y_document y_variables y_nodes y_node y_master y_isSet y_setMany y_setFrom y_setUsed y_setText y_atStop y_isFresh y_then y_choiceMany y_choiceFrom y_choiceLong y_choiceBytes y_text y_open y_shown y_nextNode y_endNode y_made y_beganAt y_ofNode y_isOwn y_begin y_size y_holding y_kept : Nat} (h : ST g (LA s) s [(x, .inr (6, [.ref tx, .ref lk, .ref pa, .int 0, .ref nO, .ref dO, .int 0, .int 0, .int 0])), (y, .inr (7, [.ref y_refused, .ref y_document, .int 0, .int 0, .ref y_variables, .int 0, .ref y_nodes, .ref y_node, .ref y_master, .ref y_isSet, .ref y_setMany, .ref y_setFrom, .ref y_setUsed, .ref y_setText, .ref y_atStop, .ref y_isFresh, .ref y_then, .ref y_choiceMany, .ref y_choiceFrom, .ref y_choiceLong, .ref y_choiceBytes, .int 0, .ref y_text, .int 0, .int 0, .int 0, .int 0, .ref y_open, .int 0, .ref y_shown, .int 0, .int 0, .ref y_nextNode, .ref y_endNode, .ref y_made, .ref y_beganAt, .ref y_ofNode, .ref y_isOwn, .int 0, .ref y_begin, .ref y_size, .ref y_holding, .int 0, .ref y_kept, .int 0])), (y_refused, .inl (g.2 1, 3, .inl (fun _ => 0)))] H locs) (hl : lv_has ls 4 [(3, .int 0), (2, .ref y), (1, .ref x), (0, .ref bs)]) {i : Int32} (e1 : xs 1 = 1) (e2 : xs 2 = i) (h4 : i < 0) : W pp l ee room_1 s m #[Value.ref bs] bb mm cd H locs 973 728835 (lw_Z bb #[Value.ref bs] s) (F0 m 577 ls []) := by
  have hx := X.1
  have hb := X.2.1
  refine lv_aload_n hx hb dL_law_577 rfl (lv_at hl 2 rfl) ?_
  refine lv_aload_n hx hb dL_law_578 rfl (lv_at hl 3 rfl) ?_
  refine lv_iload_n hx hb dL_law_579 rfl (lv_at hl 0 rfl) ?_
  refine lv_iconst (v := 1) hx hb dL_law_580 (by decide) ?_
  refine lv_iadd hx hb dL_law_581 ?_
  refine r_vi (y := 1) (by decide) ?_
  refine r_sld X hX hbl h (v := xs 1) (vp_lit (by decide +kernel)) rfl dL_law_582 ?_
  refine r_vi (y := 1) e1 ?_
  refine lv_aload_n hx hb dL_law_583 rfl (lv_at hl 3 rfl) ?_
  refine lv_iload_n hx hb dL_law_584 rfl (lv_at hl 0 rfl) ?_
  refine lv_iconst (v := 2) hx hb dL_law_585 (by decide) ?_
  refine lv_iadd hx hb dL_law_586 ?_
  refine r_vi (y := 2) (by decide) ?_
  refine r_sld X hX hbl h (v := xs 2) (vp_lit (by decide +kernel)) rfl dL_law_587 ?_
  refine r_vi (y := i) e2 ?_
  refine k_i X h [0] [1, 2] (wr := [(y, .inr (7, [.ref y_refused, .ref y_document, .int 0, .int 0, .ref y_variables, .int 0, .ref y_nodes, .ref y_node, .ref y_master, .ref y_isSet, .ref y_setMany, .ref y_setFrom, .ref y_setUsed, .ref y_setText, .ref y_atStop, .ref y_isFresh, .ref y_then, .ref y_choiceMany, .ref y_choiceFrom, .ref y_choiceLong, .ref y_choiceBytes, .int 0, .ref y_text, .int 0, .int 0, .int 0, .int 0, .ref y_open, .int 0, .ref y_shown, .int 0, .int 0, .ref y_nextNode, .ref y_endNode, .ref y_made, .ref y_beganAt, .ref y_ofNode, .ref y_isOwn, .int 0, .ref y_begin, .ref y_size, .ref y_holding, .int 0, .ref y_kept, .int 0])), (y_refused, .inl (g.2 1, 3, .inl (fun _ => 0)))]) rfl rfl rfl (by decide) 973 728835 (Nat.le_of_ble_eq_true rfl) (Nat.le_of_ble_eq_true rfl) (k_runV X h (As := [.int 1, .int i]) (rest := []) (c6_variableAt_lo1 l g H.size x tx lk pa nO dO i h4) cw_L_93 [0] rfl rfl 0 kl6 rfl rfl rfl (Nat.le_of_ble_eq_true rfl) (Nat.le_of_ble_eq_true rfl) rfl hl.1 rfl (Nat.le_of_ble_eq_true rfl) dL_law_588 (Nat.le_of_ble_eq_true rfl) (Nat.le_of_ble_eq_true rfl)) (fun _ H locs h => ?_)
  have h : ST g (LA s) s [(y, .inr (7, [.ref y_refused, .ref y_document, .int 0, .int 0, .ref y_variables, .int 0, .ref y_nodes, .ref y_node, .ref y_master, .ref y_isSet, .ref y_setMany, .ref y_setFrom, .ref y_setUsed, .ref y_setText, .ref y_atStop, .ref y_isFresh, .ref y_then, .ref y_choiceMany, .ref y_choiceFrom, .ref y_choiceLong, .ref y_choiceBytes, .int 0, .ref y_text, .int 0, .int 0, .int 0, .int 0, .ref y_open, .int 0, .ref y_shown, .int 0, .int 0, .ref y_nextNode, .ref y_endNode, .ref y_made, .ref y_beganAt, .ref y_ofNode, .ref y_isOwn, .int 0, .ref y_begin, .ref y_size, .ref y_holding, .int 0, .ref y_kept, .int 0])), (y_refused, .inl (g.2 1, 3, .inl (fun _ => 0)))] H locs := h
  refine lv_aload_n hx hb dL_law_591 rfl (lv_at hl 1 rfl) ?_
  refine lv_aload_n hx hb dL_law_592 rfl (lv_at hl 3 rfl) ?_
  refine lv_iload_n hx hb dL_law_593 rfl (lv_at hl 0 rfl) ?_
  refine lv_iconst (v := 1) hx hb dL_law_594 (by decide) ?_
  refine lv_iadd hx hb dL_law_595 ?_
  refine r_vi (y := 1) (by decide) ?_
  refine r_sld X hX hbl h (v := xs 1) (vp_lit (by decide +kernel)) rfl dL_law_596 ?_
  refine r_vi (y := 1) e1 ?_
  refine lv_aload_n hx hb dL_law_597 rfl (lv_at hl 3 rfl) ?_
  refine lv_iload_n hx hb dL_law_598 rfl (lv_at hl 0 rfl) ?_
  refine lv_iconst (v := 2) hx hb dL_law_599 (by decide) ?_
  refine lv_iadd hx hb dL_law_600 ?_
  refine r_vi (y := 2) (by decide) ?_
  refine r_sld X hX hbl h (v := xs 2) (vp_lit (by decide +kernel)) rfl dL_law_601 ?_
  refine r_vi (y := i) e2 ?_
  refine k_i X h [0, 1] [] (wr := []) rfl rfl rfl (by decide) 973 728835 (Nat.le_of_ble_eq_true rfl) (Nat.le_of_ble_eq_true rfl) (k_runV X h (As := [.int 1, .int i]) (rest := [.int (-2)]) (c7_variableAt_lo1 l g H.size y y_refused y_document y_variables y_nodes y_node y_master y_isSet y_setMany y_setFrom y_setUsed y_setText y_atStop y_isFresh y_then y_choiceMany y_choiceFrom y_choiceLong y_choiceBytes y_text y_open y_shown y_nextNode y_endNode y_made y_beganAt y_ofNode y_isOwn y_begin y_size y_holding y_kept i h4) cw_L_96 [0, 1] rfl rfl 0 kl7 rfl rfl rfl (Nat.le_of_ble_eq_true rfl) (Nat.le_of_ble_eq_true rfl) rfl hl.1 rfl (Nat.le_of_ble_eq_true rfl) dL_law_602 (Nat.le_of_ble_eq_true rfl) (Nat.le_of_ble_eq_true rfl)) (fun _ H locs h => ?_)
  have h : ST g (LA s) s [] H locs := h
  refine lv_icmp_eq (tgt := 660) hx hb dL_law_605 (by decide) (fun c_1 => ?_) (fun c_1 => absurd (by decide) c_1)
  exact law_tail X hX hbl h (lv_sub hl [0, 3] rfl) (Nat.le_of_ble_eq_true rfl) (Nat.le_of_ble_eq_true rfl)

set_option maxHeartbeats 4000000 in
set_option maxRecDepth 100000 in
theorem lw_variableAt_ok1 {nm : String} {g : GE} {pp : Program} {l : Launch} {ee : Env} {s : State} {m : MethodId} {bb : List Frame} {mm : Method} {cd : Code} {bs : Nat} {xs : Nat → Int32} {H : Heap} {locs : List Loc} {ls : Array Slot} (X : CX g pp s m mm cd #[Value.ref bs] cL_law 4 RL nm ret (LA s)) (hX : va_X bs 4 xs s s.heap) (hbl : bs < s.heap.size) {y x tx lk pa nO dO np nv ns nsh nv0 nv1 nv2 nv3 nv1b y_refused y_document y_variables y_nodes y_node y_master y_isSet y_setMany y_setFrom y_setUsed y_setText y_atStop y_isFresh y_then y_choiceMany y_choiceFrom y_choiceLong y_choiceBytes y_text y_open y_shown y_nextNode y_endNode y_made y_beganAt y_ofNode y_isOwn y_begin y_size y_holding y_kept : Nat} (h : ST g (LA s) s [(x, .inr (6, [.ref tx, .ref lk, .ref pa, .int 0, .ref nO, .ref dO, .int 0, .int 0, .int 0])), (nO, .inr (4, [.ref np, .int 0, .ref nv, .ref ns, .int 0, .ref nsh])), (nv, .inl (g.2 4, 4, .inr (.inr (.inr (.inr (va_up (va_up (va_up (va_up (fun _ => none) 0 (some nv0)) 1 (some nv1)) 2 (some nv2)) 3 (some nv3))))))), (nv1, .inr (2, [.int 12, .ref nv1b, .int 0])), (y, .inr (7, [.ref y_refused, .ref y_document, .int 0, .int 0, .ref y_variables, .int 0, .ref y_nodes, .ref y_node, .ref y_master, .ref y_isSet, .ref y_setMany, .ref y_setFrom, .ref y_setUsed, .ref y_setText, .ref y_atStop, .ref y_isFresh, .ref y_then, .ref y_choiceMany, .ref y_choiceFrom, .ref y_choiceLong, .ref y_choiceBytes, .int 0, .ref y_text, .int 0, .int 0, .int 0, .int 0, .ref y_open, .int 0, .ref y_shown, .int 0, .int 0, .ref y_nextNode, .ref y_endNode, .ref y_made, .ref y_beganAt, .ref y_ofNode, .ref y_isOwn, .int 0, .ref y_begin, .ref y_size, .ref y_holding, .int 0, .ref y_kept, .int 0])), (y_variables, .inl (g.2 1, 52, .inl (fun _ => 0)))] H locs) (hl : lv_has ls 4 [(3, .int 0), (2, .ref y), (1, .ref x), (0, .ref bs)]) {i : Int32} (e1 : xs 1 = 1) (e2 : xs 2 = i) (h4 : ¬ i < 0) (h5 : 0 ≤ i) : W pp l ee room_1 s m #[Value.ref bs] bb mm cd H locs 973 728835 (lw_Z bb #[Value.ref bs] s) (F0 m 577 ls []) := by
  have hx := X.1
  have hb := X.2.1
  refine lv_aload_n hx hb dL_law_577 rfl (lv_at hl 2 rfl) ?_
  refine lv_aload_n hx hb dL_law_578 rfl (lv_at hl 3 rfl) ?_
  refine lv_iload_n hx hb dL_law_579 rfl (lv_at hl 0 rfl) ?_
  refine lv_iconst (v := 1) hx hb dL_law_580 (by decide) ?_
  refine lv_iadd hx hb dL_law_581 ?_
  refine r_vi (y := 1) (by decide) ?_
  refine r_sld X hX hbl h (v := xs 1) (vp_lit (by decide +kernel)) rfl dL_law_582 ?_
  refine r_vi (y := 1) e1 ?_
  refine lv_aload_n hx hb dL_law_583 rfl (lv_at hl 3 rfl) ?_
  refine lv_iload_n hx hb dL_law_584 rfl (lv_at hl 0 rfl) ?_
  refine lv_iconst (v := 2) hx hb dL_law_585 (by decide) ?_
  refine lv_iadd hx hb dL_law_586 ?_
  refine r_vi (y := 2) (by decide) ?_
  refine r_sld X hX hbl h (v := xs 2) (vp_lit (by decide +kernel)) rfl dL_law_587 ?_
  refine r_vi (y := i) e2 ?_
  refine k_i X h [0, 1, 2, 3] [4, 5] (wr := [(y, .inr (7, [.ref y_refused, .ref y_document, .int 0, .int 0, .ref y_variables, .int 0, .ref y_nodes, .ref y_node, .ref y_master, .ref y_isSet, .ref y_setMany, .ref y_setFrom, .ref y_setUsed, .ref y_setText, .ref y_atStop, .ref y_isFresh, .ref y_then, .ref y_choiceMany, .ref y_choiceFrom, .ref y_choiceLong, .ref y_choiceBytes, .int 0, .ref y_text, .int 0, .int 0, .int 0, .int 0, .ref y_open, .int 0, .ref y_shown, .int 0, .int 0, .ref y_nextNode, .ref y_endNode, .ref y_made, .ref y_beganAt, .ref y_ofNode, .ref y_isOwn, .int 0, .ref y_begin, .ref y_size, .ref y_holding, .int 0, .ref y_kept, .int 0])), (y_variables, .inl (g.2 1, 52, .inl (fun _ => 0)))]) rfl rfl rfl (by decide) 973 728835 (Nat.le_of_ble_eq_true rfl) (Nat.le_of_ble_eq_true rfl) (k_runV X h (As := [.int 1, .int i]) (rest := []) (c6_variableAt_ok1 l g H.size x tx lk pa nO dO np nv ns nsh nv0 nv1 nv2 nv3 nv1b i h4 h5) cw_L_93 [0, 1, 2, 3] rfl rfl 0 kl6 rfl rfl rfl (Nat.le_of_ble_eq_true rfl) (Nat.le_of_ble_eq_true rfl) rfl hl.1 rfl (Nat.le_of_ble_eq_true rfl) dL_law_588 (Nat.le_of_ble_eq_true rfl) (Nat.le_of_ble_eq_true rfl)) (fun _ H locs h => ?_)
  have h : ST g (LA s) s [(y, .inr (7, [.ref y_refused, .ref y_document, .int 0, .int 0, .ref y_variables, .int 0, .ref y_nodes, .ref y_node, .ref y_master, .ref y_isSet, .ref y_setMany, .ref y_setFrom, .ref y_setUsed, .ref y_setText, .ref y_atStop, .ref y_isFresh, .ref y_then, .ref y_choiceMany, .ref y_choiceFrom, .ref y_choiceLong, .ref y_choiceBytes, .int 0, .ref y_text, .int 0, .int 0, .int 0, .int 0, .ref y_open, .int 0, .ref y_shown, .int 0, .int 0, .ref y_nextNode, .ref y_endNode, .ref y_made, .ref y_beganAt, .ref y_ofNode, .ref y_isOwn, .int 0, .ref y_begin, .ref y_size, .ref y_holding, .int 0, .ref y_kept, .int 0])), (y_variables, .inl (g.2 1, 52, .inl (fun _ => 0)))] H locs := h
  refine lv_aload_n hx hb dL_law_591 rfl (lv_at hl 1 rfl) ?_
  refine lv_aload_n hx hb dL_law_592 rfl (lv_at hl 3 rfl) ?_
  refine lv_iload_n hx hb dL_law_593 rfl (lv_at hl 0 rfl) ?_
  refine lv_iconst (v := 1) hx hb dL_law_594 (by decide) ?_
  refine lv_iadd hx hb dL_law_595 ?_
  refine r_vi (y := 1) (by decide) ?_
  refine r_sld X hX hbl h (v := xs 1) (vp_lit (by decide +kernel)) rfl dL_law_596 ?_
  refine r_vi (y := 1) e1 ?_
  refine lv_aload_n hx hb dL_law_597 rfl (lv_at hl 3 rfl) ?_
  refine lv_iload_n hx hb dL_law_598 rfl (lv_at hl 0 rfl) ?_
  refine lv_iconst (v := 2) hx hb dL_law_599 (by decide) ?_
  refine lv_iadd hx hb dL_law_600 ?_
  refine r_vi (y := 2) (by decide) ?_
  refine r_sld X hX hbl h (v := xs 2) (vp_lit (by decide +kernel)) rfl dL_law_601 ?_
  refine r_vi (y := i) e2 ?_
  refine k_i X h [0, 1] [] (wr := []) rfl rfl rfl (by decide) 973 728835 (Nat.le_of_ble_eq_true rfl) (Nat.le_of_ble_eq_true rfl) (k_runV X h (As := [.int 1, .int i]) (rest := [.int (-1)]) (c7_variableAt_ok1 l g H.size y y_refused y_document y_variables y_nodes y_node y_master y_isSet y_setMany y_setFrom y_setUsed y_setText y_atStop y_isFresh y_then y_choiceMany y_choiceFrom y_choiceLong y_choiceBytes y_text y_open y_shown y_nextNode y_endNode y_made y_beganAt y_ofNode y_isOwn y_begin y_size y_holding y_kept i h4 h5) cw_L_96 [0, 1] rfl rfl 0 kl7 rfl rfl rfl (Nat.le_of_ble_eq_true rfl) (Nat.le_of_ble_eq_true rfl) rfl hl.1 rfl (Nat.le_of_ble_eq_true rfl) dL_law_602 (Nat.le_of_ble_eq_true rfl) (Nat.le_of_ble_eq_true rfl)) (fun _ H locs h => ?_)
  have h : ST g (LA s) s [] H locs := h
  refine lv_icmp_eq (tgt := 660) hx hb dL_law_605 (by decide) (fun c_1 => ?_) (fun c_1 => absurd (by decide) c_1)
  exact law_tail X hX hbl h (lv_sub hl [0, 3] rfl) (Nat.le_of_ble_eq_true rfl) (Nat.le_of_ble_eq_true rfl)

set_option maxHeartbeats 4000000 in
set_option maxRecDepth 100000 in
theorem lw_variableAt_lo2 {nm : String} {g : GE} {pp : Program} {l : Launch} {ee : Env} {s : State} {m : MethodId} {bb : List Frame} {mm : Method} {cd : Code} {bs : Nat} {xs : Nat → Int32} {H : Heap} {locs : List Loc} {ls : Array Slot} (X : CX g pp s m mm cd #[Value.ref bs] cL_law 4 RL nm ret (LA s)) (hX : va_X bs 4 xs s s.heap) (hbl : bs < s.heap.size) {y x tx lk pa nO dO y_refused y_document y_variables y_nodes y_node y_master y_isSet y_setMany y_setFrom y_setUsed y_setText y_atStop y_isFresh y_then y_choiceMany y_choiceFrom y_choiceLong y_choiceBytes y_text y_open y_shown y_nextNode y_endNode y_made y_beganAt y_ofNode y_isOwn y_begin y_size y_holding y_kept : Nat} (h : ST g (LA s) s [(x, .inr (6, [.ref tx, .ref lk, .ref pa, .int 0, .ref nO, .ref dO, .int 0, .int 0, .int 0])), (y, .inr (7, [.ref y_refused, .ref y_document, .int 0, .int 0, .ref y_variables, .int 0, .ref y_nodes, .ref y_node, .ref y_master, .ref y_isSet, .ref y_setMany, .ref y_setFrom, .ref y_setUsed, .ref y_setText, .ref y_atStop, .ref y_isFresh, .ref y_then, .ref y_choiceMany, .ref y_choiceFrom, .ref y_choiceLong, .ref y_choiceBytes, .int 0, .ref y_text, .int 0, .int 0, .int 0, .int 0, .ref y_open, .int 0, .ref y_shown, .int 0, .int 0, .ref y_nextNode, .ref y_endNode, .ref y_made, .ref y_beganAt, .ref y_ofNode, .ref y_isOwn, .int 0, .ref y_begin, .ref y_size, .ref y_holding, .int 0, .ref y_kept, .int 0])), (y_refused, .inl (g.2 1, 3, .inl (fun _ => 0)))] H locs) (hl : lv_has ls 4 [(3, .int 0), (2, .ref y), (1, .ref x), (0, .ref bs)]) {i : Int32} (e1 : xs 1 = 2) (e2 : xs 2 = i) (h4 : i < 0) : W pp l ee room_1 s m #[Value.ref bs] bb mm cd H locs 973 728835 (lw_Z bb #[Value.ref bs] s) (F0 m 577 ls []) := by
  have hx := X.1
  have hb := X.2.1
  refine lv_aload_n hx hb dL_law_577 rfl (lv_at hl 2 rfl) ?_
  refine lv_aload_n hx hb dL_law_578 rfl (lv_at hl 3 rfl) ?_
  refine lv_iload_n hx hb dL_law_579 rfl (lv_at hl 0 rfl) ?_
  refine lv_iconst (v := 1) hx hb dL_law_580 (by decide) ?_
  refine lv_iadd hx hb dL_law_581 ?_
  refine r_vi (y := 1) (by decide) ?_
  refine r_sld X hX hbl h (v := xs 1) (vp_lit (by decide +kernel)) rfl dL_law_582 ?_
  refine r_vi (y := 2) e1 ?_
  refine lv_aload_n hx hb dL_law_583 rfl (lv_at hl 3 rfl) ?_
  refine lv_iload_n hx hb dL_law_584 rfl (lv_at hl 0 rfl) ?_
  refine lv_iconst (v := 2) hx hb dL_law_585 (by decide) ?_
  refine lv_iadd hx hb dL_law_586 ?_
  refine r_vi (y := 2) (by decide) ?_
  refine r_sld X hX hbl h (v := xs 2) (vp_lit (by decide +kernel)) rfl dL_law_587 ?_
  refine r_vi (y := i) e2 ?_
  refine k_i X h [0] [1, 2] (wr := [(y, .inr (7, [.ref y_refused, .ref y_document, .int 0, .int 0, .ref y_variables, .int 0, .ref y_nodes, .ref y_node, .ref y_master, .ref y_isSet, .ref y_setMany, .ref y_setFrom, .ref y_setUsed, .ref y_setText, .ref y_atStop, .ref y_isFresh, .ref y_then, .ref y_choiceMany, .ref y_choiceFrom, .ref y_choiceLong, .ref y_choiceBytes, .int 0, .ref y_text, .int 0, .int 0, .int 0, .int 0, .ref y_open, .int 0, .ref y_shown, .int 0, .int 0, .ref y_nextNode, .ref y_endNode, .ref y_made, .ref y_beganAt, .ref y_ofNode, .ref y_isOwn, .int 0, .ref y_begin, .ref y_size, .ref y_holding, .int 0, .ref y_kept, .int 0])), (y_refused, .inl (g.2 1, 3, .inl (fun _ => 0)))]) rfl rfl rfl (by decide) 973 728835 (Nat.le_of_ble_eq_true rfl) (Nat.le_of_ble_eq_true rfl) (k_runV X h (As := [.int 2, .int i]) (rest := []) (c6_variableAt_lo2 l g H.size x tx lk pa nO dO i h4) cw_L_93 [0] rfl rfl 0 kl6 rfl rfl rfl (Nat.le_of_ble_eq_true rfl) (Nat.le_of_ble_eq_true rfl) rfl hl.1 rfl (Nat.le_of_ble_eq_true rfl) dL_law_588 (Nat.le_of_ble_eq_true rfl) (Nat.le_of_ble_eq_true rfl)) (fun _ H locs h => ?_)
  have h : ST g (LA s) s [(y, .inr (7, [.ref y_refused, .ref y_document, .int 0, .int 0, .ref y_variables, .int 0, .ref y_nodes, .ref y_node, .ref y_master, .ref y_isSet, .ref y_setMany, .ref y_setFrom, .ref y_setUsed, .ref y_setText, .ref y_atStop, .ref y_isFresh, .ref y_then, .ref y_choiceMany, .ref y_choiceFrom, .ref y_choiceLong, .ref y_choiceBytes, .int 0, .ref y_text, .int 0, .int 0, .int 0, .int 0, .ref y_open, .int 0, .ref y_shown, .int 0, .int 0, .ref y_nextNode, .ref y_endNode, .ref y_made, .ref y_beganAt, .ref y_ofNode, .ref y_isOwn, .int 0, .ref y_begin, .ref y_size, .ref y_holding, .int 0, .ref y_kept, .int 0])), (y_refused, .inl (g.2 1, 3, .inl (fun _ => 0)))] H locs := h
  refine lv_aload_n hx hb dL_law_591 rfl (lv_at hl 1 rfl) ?_
  refine lv_aload_n hx hb dL_law_592 rfl (lv_at hl 3 rfl) ?_
  refine lv_iload_n hx hb dL_law_593 rfl (lv_at hl 0 rfl) ?_
  refine lv_iconst (v := 1) hx hb dL_law_594 (by decide) ?_
  refine lv_iadd hx hb dL_law_595 ?_
  refine r_vi (y := 1) (by decide) ?_
  refine r_sld X hX hbl h (v := xs 1) (vp_lit (by decide +kernel)) rfl dL_law_596 ?_
  refine r_vi (y := 2) e1 ?_
  refine lv_aload_n hx hb dL_law_597 rfl (lv_at hl 3 rfl) ?_
  refine lv_iload_n hx hb dL_law_598 rfl (lv_at hl 0 rfl) ?_
  refine lv_iconst (v := 2) hx hb dL_law_599 (by decide) ?_
  refine lv_iadd hx hb dL_law_600 ?_
  refine r_vi (y := 2) (by decide) ?_
  refine r_sld X hX hbl h (v := xs 2) (vp_lit (by decide +kernel)) rfl dL_law_601 ?_
  refine r_vi (y := i) e2 ?_
  refine k_i X h [0, 1] [] (wr := []) rfl rfl rfl (by decide) 973 728835 (Nat.le_of_ble_eq_true rfl) (Nat.le_of_ble_eq_true rfl) (k_runV X h (As := [.int 2, .int i]) (rest := [.int (-2)]) (c7_variableAt_lo2 l g H.size y y_refused y_document y_variables y_nodes y_node y_master y_isSet y_setMany y_setFrom y_setUsed y_setText y_atStop y_isFresh y_then y_choiceMany y_choiceFrom y_choiceLong y_choiceBytes y_text y_open y_shown y_nextNode y_endNode y_made y_beganAt y_ofNode y_isOwn y_begin y_size y_holding y_kept i h4) cw_L_96 [0, 1] rfl rfl 0 kl7 rfl rfl rfl (Nat.le_of_ble_eq_true rfl) (Nat.le_of_ble_eq_true rfl) rfl hl.1 rfl (Nat.le_of_ble_eq_true rfl) dL_law_602 (Nat.le_of_ble_eq_true rfl) (Nat.le_of_ble_eq_true rfl)) (fun _ H locs h => ?_)
  have h : ST g (LA s) s [] H locs := h
  refine lv_icmp_eq (tgt := 660) hx hb dL_law_605 (by decide) (fun c_1 => ?_) (fun c_1 => absurd (by decide) c_1)
  exact law_tail X hX hbl h (lv_sub hl [0, 3] rfl) (Nat.le_of_ble_eq_true rfl) (Nat.le_of_ble_eq_true rfl)

set_option maxHeartbeats 4000000 in
set_option maxRecDepth 100000 in
theorem lw_variableAt_ok2 {nm : String} {g : GE} {pp : Program} {l : Launch} {ee : Env} {s : State} {m : MethodId} {bb : List Frame} {mm : Method} {cd : Code} {bs : Nat} {xs : Nat → Int32} {H : Heap} {locs : List Loc} {ls : Array Slot} (X : CX g pp s m mm cd #[Value.ref bs] cL_law 4 RL nm ret (LA s)) (hX : va_X bs 4 xs s s.heap) (hbl : bs < s.heap.size) {y x tx lk pa nO dO np nv ns nsh nv0 nv1 nv2 nv3 nv2b y_refused y_document y_variables y_nodes y_node y_master y_isSet y_setMany y_setFrom y_setUsed y_setText y_atStop y_isFresh y_then y_choiceMany y_choiceFrom y_choiceLong y_choiceBytes y_text y_open y_shown y_nextNode y_endNode y_made y_beganAt y_ofNode y_isOwn y_begin y_size y_holding y_kept : Nat} (h : ST g (LA s) s [(x, .inr (6, [.ref tx, .ref lk, .ref pa, .int 0, .ref nO, .ref dO, .int 0, .int 0, .int 0])), (nO, .inr (4, [.ref np, .int 0, .ref nv, .ref ns, .int 0, .ref nsh])), (nv, .inl (g.2 4, 4, .inr (.inr (.inr (.inr (va_up (va_up (va_up (va_up (fun _ => none) 0 (some nv0)) 1 (some nv1)) 2 (some nv2)) 3 (some nv3))))))), (nv2, .inr (2, [.int 12, .ref nv2b, .int 0])), (y, .inr (7, [.ref y_refused, .ref y_document, .int 0, .int 0, .ref y_variables, .int 0, .ref y_nodes, .ref y_node, .ref y_master, .ref y_isSet, .ref y_setMany, .ref y_setFrom, .ref y_setUsed, .ref y_setText, .ref y_atStop, .ref y_isFresh, .ref y_then, .ref y_choiceMany, .ref y_choiceFrom, .ref y_choiceLong, .ref y_choiceBytes, .int 0, .ref y_text, .int 0, .int 0, .int 0, .int 0, .ref y_open, .int 0, .ref y_shown, .int 0, .int 0, .ref y_nextNode, .ref y_endNode, .ref y_made, .ref y_beganAt, .ref y_ofNode, .ref y_isOwn, .int 0, .ref y_begin, .ref y_size, .ref y_holding, .int 0, .ref y_kept, .int 0])), (y_variables, .inl (g.2 1, 52, .inl (fun _ => 0)))] H locs) (hl : lv_has ls 4 [(3, .int 0), (2, .ref y), (1, .ref x), (0, .ref bs)]) {i : Int32} (e1 : xs 1 = 2) (e2 : xs 2 = i) (h4 : ¬ i < 0) (h5 : 0 ≤ i) : W pp l ee room_1 s m #[Value.ref bs] bb mm cd H locs 973 728835 (lw_Z bb #[Value.ref bs] s) (F0 m 577 ls []) := by
  have hx := X.1
  have hb := X.2.1
  refine lv_aload_n hx hb dL_law_577 rfl (lv_at hl 2 rfl) ?_
  refine lv_aload_n hx hb dL_law_578 rfl (lv_at hl 3 rfl) ?_
  refine lv_iload_n hx hb dL_law_579 rfl (lv_at hl 0 rfl) ?_
  refine lv_iconst (v := 1) hx hb dL_law_580 (by decide) ?_
  refine lv_iadd hx hb dL_law_581 ?_
  refine r_vi (y := 1) (by decide) ?_
  refine r_sld X hX hbl h (v := xs 1) (vp_lit (by decide +kernel)) rfl dL_law_582 ?_
  refine r_vi (y := 2) e1 ?_
  refine lv_aload_n hx hb dL_law_583 rfl (lv_at hl 3 rfl) ?_
  refine lv_iload_n hx hb dL_law_584 rfl (lv_at hl 0 rfl) ?_
  refine lv_iconst (v := 2) hx hb dL_law_585 (by decide) ?_
  refine lv_iadd hx hb dL_law_586 ?_
  refine r_vi (y := 2) (by decide) ?_
  refine r_sld X hX hbl h (v := xs 2) (vp_lit (by decide +kernel)) rfl dL_law_587 ?_
  refine r_vi (y := i) e2 ?_
  refine k_i X h [0, 1, 2, 3] [4, 5] (wr := [(y, .inr (7, [.ref y_refused, .ref y_document, .int 0, .int 0, .ref y_variables, .int 0, .ref y_nodes, .ref y_node, .ref y_master, .ref y_isSet, .ref y_setMany, .ref y_setFrom, .ref y_setUsed, .ref y_setText, .ref y_atStop, .ref y_isFresh, .ref y_then, .ref y_choiceMany, .ref y_choiceFrom, .ref y_choiceLong, .ref y_choiceBytes, .int 0, .ref y_text, .int 0, .int 0, .int 0, .int 0, .ref y_open, .int 0, .ref y_shown, .int 0, .int 0, .ref y_nextNode, .ref y_endNode, .ref y_made, .ref y_beganAt, .ref y_ofNode, .ref y_isOwn, .int 0, .ref y_begin, .ref y_size, .ref y_holding, .int 0, .ref y_kept, .int 0])), (y_variables, .inl (g.2 1, 52, .inl (fun _ => 0)))]) rfl rfl rfl (by decide) 973 728835 (Nat.le_of_ble_eq_true rfl) (Nat.le_of_ble_eq_true rfl) (k_runV X h (As := [.int 2, .int i]) (rest := []) (c6_variableAt_ok2 l g H.size x tx lk pa nO dO np nv ns nsh nv0 nv1 nv2 nv3 nv2b i h4 h5) cw_L_93 [0, 1, 2, 3] rfl rfl 0 kl6 rfl rfl rfl (Nat.le_of_ble_eq_true rfl) (Nat.le_of_ble_eq_true rfl) rfl hl.1 rfl (Nat.le_of_ble_eq_true rfl) dL_law_588 (Nat.le_of_ble_eq_true rfl) (Nat.le_of_ble_eq_true rfl)) (fun _ H locs h => ?_)
  have h : ST g (LA s) s [(y, .inr (7, [.ref y_refused, .ref y_document, .int 0, .int 0, .ref y_variables, .int 0, .ref y_nodes, .ref y_node, .ref y_master, .ref y_isSet, .ref y_setMany, .ref y_setFrom, .ref y_setUsed, .ref y_setText, .ref y_atStop, .ref y_isFresh, .ref y_then, .ref y_choiceMany, .ref y_choiceFrom, .ref y_choiceLong, .ref y_choiceBytes, .int 0, .ref y_text, .int 0, .int 0, .int 0, .int 0, .ref y_open, .int 0, .ref y_shown, .int 0, .int 0, .ref y_nextNode, .ref y_endNode, .ref y_made, .ref y_beganAt, .ref y_ofNode, .ref y_isOwn, .int 0, .ref y_begin, .ref y_size, .ref y_holding, .int 0, .ref y_kept, .int 0])), (y_variables, .inl (g.2 1, 52, .inl (fun _ => 0)))] H locs := h
  refine lv_aload_n hx hb dL_law_591 rfl (lv_at hl 1 rfl) ?_
  refine lv_aload_n hx hb dL_law_592 rfl (lv_at hl 3 rfl) ?_
  refine lv_iload_n hx hb dL_law_593 rfl (lv_at hl 0 rfl) ?_
  refine lv_iconst (v := 1) hx hb dL_law_594 (by decide) ?_
  refine lv_iadd hx hb dL_law_595 ?_
  refine r_vi (y := 1) (by decide) ?_
  refine r_sld X hX hbl h (v := xs 1) (vp_lit (by decide +kernel)) rfl dL_law_596 ?_
  refine r_vi (y := 2) e1 ?_
  refine lv_aload_n hx hb dL_law_597 rfl (lv_at hl 3 rfl) ?_
  refine lv_iload_n hx hb dL_law_598 rfl (lv_at hl 0 rfl) ?_
  refine lv_iconst (v := 2) hx hb dL_law_599 (by decide) ?_
  refine lv_iadd hx hb dL_law_600 ?_
  refine r_vi (y := 2) (by decide) ?_
  refine r_sld X hX hbl h (v := xs 2) (vp_lit (by decide +kernel)) rfl dL_law_601 ?_
  refine r_vi (y := i) e2 ?_
  refine k_i X h [0, 1] [] (wr := []) rfl rfl rfl (by decide) 973 728835 (Nat.le_of_ble_eq_true rfl) (Nat.le_of_ble_eq_true rfl) (k_runV X h (As := [.int 2, .int i]) (rest := [.int (-1)]) (c7_variableAt_ok2 l g H.size y y_refused y_document y_variables y_nodes y_node y_master y_isSet y_setMany y_setFrom y_setUsed y_setText y_atStop y_isFresh y_then y_choiceMany y_choiceFrom y_choiceLong y_choiceBytes y_text y_open y_shown y_nextNode y_endNode y_made y_beganAt y_ofNode y_isOwn y_begin y_size y_holding y_kept i h4 h5) cw_L_96 [0, 1] rfl rfl 0 kl7 rfl rfl rfl (Nat.le_of_ble_eq_true rfl) (Nat.le_of_ble_eq_true rfl) rfl hl.1 rfl (Nat.le_of_ble_eq_true rfl) dL_law_602 (Nat.le_of_ble_eq_true rfl) (Nat.le_of_ble_eq_true rfl)) (fun _ H locs h => ?_)
  have h : ST g (LA s) s [] H locs := h
  refine lv_icmp_eq (tgt := 660) hx hb dL_law_605 (by decide) (fun c_1 => ?_) (fun c_1 => absurd (by decide) c_1)
  exact law_tail X hX hbl h (lv_sub hl [0, 3] rfl) (Nat.le_of_ble_eq_true rfl) (Nat.le_of_ble_eq_true rfl)

set_option maxHeartbeats 4000000 in
set_option maxRecDepth 100000 in
theorem lw_variableAt_lo3 {nm : String} {g : GE} {pp : Program} {l : Launch} {ee : Env} {s : State} {m : MethodId} {bb : List Frame} {mm : Method} {cd : Code} {bs : Nat} {xs : Nat → Int32} {H : Heap} {locs : List Loc} {ls : Array Slot} (X : CX g pp s m mm cd #[Value.ref bs] cL_law 4 RL nm ret (LA s)) (hX : va_X bs 4 xs s s.heap) (hbl : bs < s.heap.size) {y x tx lk pa nO dO y_refused y_document y_variables y_nodes y_node y_master y_isSet y_setMany y_setFrom y_setUsed y_setText y_atStop y_isFresh y_then y_choiceMany y_choiceFrom y_choiceLong y_choiceBytes y_text y_open y_shown y_nextNode y_endNode y_made y_beganAt y_ofNode y_isOwn y_begin y_size y_holding y_kept : Nat} (h : ST g (LA s) s [(x, .inr (6, [.ref tx, .ref lk, .ref pa, .int 0, .ref nO, .ref dO, .int 0, .int 0, .int 0])), (y, .inr (7, [.ref y_refused, .ref y_document, .int 0, .int 0, .ref y_variables, .int 0, .ref y_nodes, .ref y_node, .ref y_master, .ref y_isSet, .ref y_setMany, .ref y_setFrom, .ref y_setUsed, .ref y_setText, .ref y_atStop, .ref y_isFresh, .ref y_then, .ref y_choiceMany, .ref y_choiceFrom, .ref y_choiceLong, .ref y_choiceBytes, .int 0, .ref y_text, .int 0, .int 0, .int 0, .int 0, .ref y_open, .int 0, .ref y_shown, .int 0, .int 0, .ref y_nextNode, .ref y_endNode, .ref y_made, .ref y_beganAt, .ref y_ofNode, .ref y_isOwn, .int 0, .ref y_begin, .ref y_size, .ref y_holding, .int 0, .ref y_kept, .int 0])), (y_refused, .inl (g.2 1, 3, .inl (fun _ => 0)))] H locs) (hl : lv_has ls 4 [(3, .int 0), (2, .ref y), (1, .ref x), (0, .ref bs)]) {i : Int32} (e1 : xs 1 = 3) (e2 : xs 2 = i) (h4 : i < 0) : W pp l ee room_1 s m #[Value.ref bs] bb mm cd H locs 973 728835 (lw_Z bb #[Value.ref bs] s) (F0 m 577 ls []) := by
  have hx := X.1
  have hb := X.2.1
  refine lv_aload_n hx hb dL_law_577 rfl (lv_at hl 2 rfl) ?_
  refine lv_aload_n hx hb dL_law_578 rfl (lv_at hl 3 rfl) ?_
  refine lv_iload_n hx hb dL_law_579 rfl (lv_at hl 0 rfl) ?_
  refine lv_iconst (v := 1) hx hb dL_law_580 (by decide) ?_
  refine lv_iadd hx hb dL_law_581 ?_
  refine r_vi (y := 1) (by decide) ?_
  refine r_sld X hX hbl h (v := xs 1) (vp_lit (by decide +kernel)) rfl dL_law_582 ?_
  refine r_vi (y := 3) e1 ?_
  refine lv_aload_n hx hb dL_law_583 rfl (lv_at hl 3 rfl) ?_
  refine lv_iload_n hx hb dL_law_584 rfl (lv_at hl 0 rfl) ?_
  refine lv_iconst (v := 2) hx hb dL_law_585 (by decide) ?_
  refine lv_iadd hx hb dL_law_586 ?_
  refine r_vi (y := 2) (by decide) ?_
  refine r_sld X hX hbl h (v := xs 2) (vp_lit (by decide +kernel)) rfl dL_law_587 ?_
  refine r_vi (y := i) e2 ?_
  refine k_i X h [0] [1, 2] (wr := [(y, .inr (7, [.ref y_refused, .ref y_document, .int 0, .int 0, .ref y_variables, .int 0, .ref y_nodes, .ref y_node, .ref y_master, .ref y_isSet, .ref y_setMany, .ref y_setFrom, .ref y_setUsed, .ref y_setText, .ref y_atStop, .ref y_isFresh, .ref y_then, .ref y_choiceMany, .ref y_choiceFrom, .ref y_choiceLong, .ref y_choiceBytes, .int 0, .ref y_text, .int 0, .int 0, .int 0, .int 0, .ref y_open, .int 0, .ref y_shown, .int 0, .int 0, .ref y_nextNode, .ref y_endNode, .ref y_made, .ref y_beganAt, .ref y_ofNode, .ref y_isOwn, .int 0, .ref y_begin, .ref y_size, .ref y_holding, .int 0, .ref y_kept, .int 0])), (y_refused, .inl (g.2 1, 3, .inl (fun _ => 0)))]) rfl rfl rfl (by decide) 973 728835 (Nat.le_of_ble_eq_true rfl) (Nat.le_of_ble_eq_true rfl) (k_runV X h (As := [.int 3, .int i]) (rest := []) (c6_variableAt_lo3 l g H.size x tx lk pa nO dO i h4) cw_L_93 [0] rfl rfl 0 kl6 rfl rfl rfl (Nat.le_of_ble_eq_true rfl) (Nat.le_of_ble_eq_true rfl) rfl hl.1 rfl (Nat.le_of_ble_eq_true rfl) dL_law_588 (Nat.le_of_ble_eq_true rfl) (Nat.le_of_ble_eq_true rfl)) (fun _ H locs h => ?_)
  have h : ST g (LA s) s [(y, .inr (7, [.ref y_refused, .ref y_document, .int 0, .int 0, .ref y_variables, .int 0, .ref y_nodes, .ref y_node, .ref y_master, .ref y_isSet, .ref y_setMany, .ref y_setFrom, .ref y_setUsed, .ref y_setText, .ref y_atStop, .ref y_isFresh, .ref y_then, .ref y_choiceMany, .ref y_choiceFrom, .ref y_choiceLong, .ref y_choiceBytes, .int 0, .ref y_text, .int 0, .int 0, .int 0, .int 0, .ref y_open, .int 0, .ref y_shown, .int 0, .int 0, .ref y_nextNode, .ref y_endNode, .ref y_made, .ref y_beganAt, .ref y_ofNode, .ref y_isOwn, .int 0, .ref y_begin, .ref y_size, .ref y_holding, .int 0, .ref y_kept, .int 0])), (y_refused, .inl (g.2 1, 3, .inl (fun _ => 0)))] H locs := h
  refine lv_aload_n hx hb dL_law_591 rfl (lv_at hl 1 rfl) ?_
  refine lv_aload_n hx hb dL_law_592 rfl (lv_at hl 3 rfl) ?_
  refine lv_iload_n hx hb dL_law_593 rfl (lv_at hl 0 rfl) ?_
  refine lv_iconst (v := 1) hx hb dL_law_594 (by decide) ?_
  refine lv_iadd hx hb dL_law_595 ?_
  refine r_vi (y := 1) (by decide) ?_
  refine r_sld X hX hbl h (v := xs 1) (vp_lit (by decide +kernel)) rfl dL_law_596 ?_
  refine r_vi (y := 3) e1 ?_
  refine lv_aload_n hx hb dL_law_597 rfl (lv_at hl 3 rfl) ?_
  refine lv_iload_n hx hb dL_law_598 rfl (lv_at hl 0 rfl) ?_
  refine lv_iconst (v := 2) hx hb dL_law_599 (by decide) ?_
  refine lv_iadd hx hb dL_law_600 ?_
  refine r_vi (y := 2) (by decide) ?_
  refine r_sld X hX hbl h (v := xs 2) (vp_lit (by decide +kernel)) rfl dL_law_601 ?_
  refine r_vi (y := i) e2 ?_
  refine k_i X h [0, 1] [] (wr := []) rfl rfl rfl (by decide) 973 728835 (Nat.le_of_ble_eq_true rfl) (Nat.le_of_ble_eq_true rfl) (k_runV X h (As := [.int 3, .int i]) (rest := [.int (-2)]) (c7_variableAt_lo3 l g H.size y y_refused y_document y_variables y_nodes y_node y_master y_isSet y_setMany y_setFrom y_setUsed y_setText y_atStop y_isFresh y_then y_choiceMany y_choiceFrom y_choiceLong y_choiceBytes y_text y_open y_shown y_nextNode y_endNode y_made y_beganAt y_ofNode y_isOwn y_begin y_size y_holding y_kept i h4) cw_L_96 [0, 1] rfl rfl 0 kl7 rfl rfl rfl (Nat.le_of_ble_eq_true rfl) (Nat.le_of_ble_eq_true rfl) rfl hl.1 rfl (Nat.le_of_ble_eq_true rfl) dL_law_602 (Nat.le_of_ble_eq_true rfl) (Nat.le_of_ble_eq_true rfl)) (fun _ H locs h => ?_)
  have h : ST g (LA s) s [] H locs := h
  refine lv_icmp_eq (tgt := 660) hx hb dL_law_605 (by decide) (fun c_1 => ?_) (fun c_1 => absurd (by decide) c_1)
  exact law_tail X hX hbl h (lv_sub hl [0, 3] rfl) (Nat.le_of_ble_eq_true rfl) (Nat.le_of_ble_eq_true rfl)

set_option maxHeartbeats 4000000 in
set_option maxRecDepth 100000 in
theorem lw_variableAt_ok3 {nm : String} {g : GE} {pp : Program} {l : Launch} {ee : Env} {s : State} {m : MethodId} {bb : List Frame} {mm : Method} {cd : Code} {bs : Nat} {xs : Nat → Int32} {H : Heap} {locs : List Loc} {ls : Array Slot} (X : CX g pp s m mm cd #[Value.ref bs] cL_law 4 RL nm ret (LA s)) (hX : va_X bs 4 xs s s.heap) (hbl : bs < s.heap.size) {y x tx lk pa nO dO np nv ns nsh nv0 nv1 nv2 nv3 nv3b y_refused y_document y_variables y_nodes y_node y_master y_isSet y_setMany y_setFrom y_setUsed y_setText y_atStop y_isFresh y_then y_choiceMany y_choiceFrom y_choiceLong y_choiceBytes y_text y_open y_shown y_nextNode y_endNode y_made y_beganAt y_ofNode y_isOwn y_begin y_size y_holding y_kept : Nat} (h : ST g (LA s) s [(x, .inr (6, [.ref tx, .ref lk, .ref pa, .int 0, .ref nO, .ref dO, .int 0, .int 0, .int 0])), (nO, .inr (4, [.ref np, .int 0, .ref nv, .ref ns, .int 0, .ref nsh])), (nv, .inl (g.2 4, 4, .inr (.inr (.inr (.inr (va_up (va_up (va_up (va_up (fun _ => none) 0 (some nv0)) 1 (some nv1)) 2 (some nv2)) 3 (some nv3))))))), (nv3, .inr (2, [.int 12, .ref nv3b, .int 0])), (y, .inr (7, [.ref y_refused, .ref y_document, .int 0, .int 0, .ref y_variables, .int 0, .ref y_nodes, .ref y_node, .ref y_master, .ref y_isSet, .ref y_setMany, .ref y_setFrom, .ref y_setUsed, .ref y_setText, .ref y_atStop, .ref y_isFresh, .ref y_then, .ref y_choiceMany, .ref y_choiceFrom, .ref y_choiceLong, .ref y_choiceBytes, .int 0, .ref y_text, .int 0, .int 0, .int 0, .int 0, .ref y_open, .int 0, .ref y_shown, .int 0, .int 0, .ref y_nextNode, .ref y_endNode, .ref y_made, .ref y_beganAt, .ref y_ofNode, .ref y_isOwn, .int 0, .ref y_begin, .ref y_size, .ref y_holding, .int 0, .ref y_kept, .int 0])), (y_variables, .inl (g.2 1, 52, .inl (fun _ => 0)))] H locs) (hl : lv_has ls 4 [(3, .int 0), (2, .ref y), (1, .ref x), (0, .ref bs)]) {i : Int32} (e1 : xs 1 = 3) (e2 : xs 2 = i) (h4 : ¬ i < 0) (h5 : 0 ≤ i) : W pp l ee room_1 s m #[Value.ref bs] bb mm cd H locs 973 728835 (lw_Z bb #[Value.ref bs] s) (F0 m 577 ls []) := by
  have hx := X.1
  have hb := X.2.1
  refine lv_aload_n hx hb dL_law_577 rfl (lv_at hl 2 rfl) ?_
  refine lv_aload_n hx hb dL_law_578 rfl (lv_at hl 3 rfl) ?_
  refine lv_iload_n hx hb dL_law_579 rfl (lv_at hl 0 rfl) ?_
  refine lv_iconst (v := 1) hx hb dL_law_580 (by decide) ?_
  refine lv_iadd hx hb dL_law_581 ?_
  refine r_vi (y := 1) (by decide) ?_
  refine r_sld X hX hbl h (v := xs 1) (vp_lit (by decide +kernel)) rfl dL_law_582 ?_
  refine r_vi (y := 3) e1 ?_
  refine lv_aload_n hx hb dL_law_583 rfl (lv_at hl 3 rfl) ?_
  refine lv_iload_n hx hb dL_law_584 rfl (lv_at hl 0 rfl) ?_
  refine lv_iconst (v := 2) hx hb dL_law_585 (by decide) ?_
  refine lv_iadd hx hb dL_law_586 ?_
  refine r_vi (y := 2) (by decide) ?_
  refine r_sld X hX hbl h (v := xs 2) (vp_lit (by decide +kernel)) rfl dL_law_587 ?_
  refine r_vi (y := i) e2 ?_
  refine k_i X h [0, 1, 2, 3] [4, 5] (wr := [(y, .inr (7, [.ref y_refused, .ref y_document, .int 0, .int 0, .ref y_variables, .int 0, .ref y_nodes, .ref y_node, .ref y_master, .ref y_isSet, .ref y_setMany, .ref y_setFrom, .ref y_setUsed, .ref y_setText, .ref y_atStop, .ref y_isFresh, .ref y_then, .ref y_choiceMany, .ref y_choiceFrom, .ref y_choiceLong, .ref y_choiceBytes, .int 0, .ref y_text, .int 0, .int 0, .int 0, .int 0, .ref y_open, .int 0, .ref y_shown, .int 0, .int 0, .ref y_nextNode, .ref y_endNode, .ref y_made, .ref y_beganAt, .ref y_ofNode, .ref y_isOwn, .int 0, .ref y_begin, .ref y_size, .ref y_holding, .int 0, .ref y_kept, .int 0])), (y_variables, .inl (g.2 1, 52, .inl (fun _ => 0)))]) rfl rfl rfl (by decide) 973 728835 (Nat.le_of_ble_eq_true rfl) (Nat.le_of_ble_eq_true rfl) (k_runV X h (As := [.int 3, .int i]) (rest := []) (c6_variableAt_ok3 l g H.size x tx lk pa nO dO np nv ns nsh nv0 nv1 nv2 nv3 nv3b i h4 h5) cw_L_93 [0, 1, 2, 3] rfl rfl 0 kl6 rfl rfl rfl (Nat.le_of_ble_eq_true rfl) (Nat.le_of_ble_eq_true rfl) rfl hl.1 rfl (Nat.le_of_ble_eq_true rfl) dL_law_588 (Nat.le_of_ble_eq_true rfl) (Nat.le_of_ble_eq_true rfl)) (fun _ H locs h => ?_)
  have h : ST g (LA s) s [(y, .inr (7, [.ref y_refused, .ref y_document, .int 0, .int 0, .ref y_variables, .int 0, .ref y_nodes, .ref y_node, .ref y_master, .ref y_isSet, .ref y_setMany, .ref y_setFrom, .ref y_setUsed, .ref y_setText, .ref y_atStop, .ref y_isFresh, .ref y_then, .ref y_choiceMany, .ref y_choiceFrom, .ref y_choiceLong, .ref y_choiceBytes, .int 0, .ref y_text, .int 0, .int 0, .int 0, .int 0, .ref y_open, .int 0, .ref y_shown, .int 0, .int 0, .ref y_nextNode, .ref y_endNode, .ref y_made, .ref y_beganAt, .ref y_ofNode, .ref y_isOwn, .int 0, .ref y_begin, .ref y_size, .ref y_holding, .int 0, .ref y_kept, .int 0])), (y_variables, .inl (g.2 1, 52, .inl (fun _ => 0)))] H locs := h
  refine lv_aload_n hx hb dL_law_591 rfl (lv_at hl 1 rfl) ?_
  refine lv_aload_n hx hb dL_law_592 rfl (lv_at hl 3 rfl) ?_
  refine lv_iload_n hx hb dL_law_593 rfl (lv_at hl 0 rfl) ?_
  refine lv_iconst (v := 1) hx hb dL_law_594 (by decide) ?_
  refine lv_iadd hx hb dL_law_595 ?_
  refine r_vi (y := 1) (by decide) ?_
  refine r_sld X hX hbl h (v := xs 1) (vp_lit (by decide +kernel)) rfl dL_law_596 ?_
  refine r_vi (y := 3) e1 ?_
  refine lv_aload_n hx hb dL_law_597 rfl (lv_at hl 3 rfl) ?_
  refine lv_iload_n hx hb dL_law_598 rfl (lv_at hl 0 rfl) ?_
  refine lv_iconst (v := 2) hx hb dL_law_599 (by decide) ?_
  refine lv_iadd hx hb dL_law_600 ?_
  refine r_vi (y := 2) (by decide) ?_
  refine r_sld X hX hbl h (v := xs 2) (vp_lit (by decide +kernel)) rfl dL_law_601 ?_
  refine r_vi (y := i) e2 ?_
  refine k_i X h [0, 1] [] (wr := []) rfl rfl rfl (by decide) 973 728835 (Nat.le_of_ble_eq_true rfl) (Nat.le_of_ble_eq_true rfl) (k_runV X h (As := [.int 3, .int i]) (rest := [.int (-1)]) (c7_variableAt_ok3 l g H.size y y_refused y_document y_variables y_nodes y_node y_master y_isSet y_setMany y_setFrom y_setUsed y_setText y_atStop y_isFresh y_then y_choiceMany y_choiceFrom y_choiceLong y_choiceBytes y_text y_open y_shown y_nextNode y_endNode y_made y_beganAt y_ofNode y_isOwn y_begin y_size y_holding y_kept i h4 h5) cw_L_96 [0, 1] rfl rfl 0 kl7 rfl rfl rfl (Nat.le_of_ble_eq_true rfl) (Nat.le_of_ble_eq_true rfl) rfl hl.1 rfl (Nat.le_of_ble_eq_true rfl) dL_law_602 (Nat.le_of_ble_eq_true rfl) (Nat.le_of_ble_eq_true rfl)) (fun _ H locs h => ?_)
  have h : ST g (LA s) s [] H locs := h
  refine lv_icmp_eq (tgt := 660) hx hb dL_law_605 (by decide) (fun c_1 => ?_) (fun c_1 => absurd (by decide) c_1)
  exact law_tail X hX hbl h (lv_sub hl [0, 3] rfl) (Nat.le_of_ble_eq_true rfl) (Nat.le_of_ble_eq_true rfl)

set_option maxHeartbeats 4000000 in
set_option maxRecDepth 100000 in
theorem lw_back {nm : String} {g : GE} {pp : Program} {l : Launch} {ee : Env} {s : State} {m : MethodId} {bb : List Frame} {mm : Method} {cd : Code} {bs : Nat} {xs : Nat → Int32} {H : Heap} {locs : List Loc} {ls : Array Slot} (X : CX g pp s m mm cd #[Value.ref bs] cL_law 4 RL nm ret (LA s)) (hX : va_X bs 4 xs s s.heap) (hbl : bs < s.heap.size) {y x tx lk pa nO dO y_refused y_document y_variables y_nodes y_node y_master y_isSet y_setMany y_setFrom y_setUsed y_setText y_atStop y_isFresh y_then y_choiceMany y_choiceFrom y_choiceLong y_choiceBytes y_text y_open y_shown y_nextNode y_endNode y_made y_beganAt y_ofNode y_isOwn y_begin y_size y_holding y_kept : Nat} (h : ST g (LA s) s [(x, .inr (6, [.ref tx, .ref lk, .ref pa, .int 0, .ref nO, .ref dO, .int 0, .int 0, .int 0])), (y, .inr (7, [.ref y_refused, .ref y_document, .int 0, .int 0, .ref y_variables, .int 0, .ref y_nodes, .ref y_node, .ref y_master, .ref y_isSet, .ref y_setMany, .ref y_setFrom, .ref y_setUsed, .ref y_setText, .ref y_atStop, .ref y_isFresh, .ref y_then, .ref y_choiceMany, .ref y_choiceFrom, .ref y_choiceLong, .ref y_choiceBytes, .int 0, .ref y_text, .int 0, .int 0, .int 0, .int 0, .ref y_open, .int 0, .ref y_shown, .int 0, .int 0, .ref y_nextNode, .ref y_endNode, .ref y_made, .ref y_beganAt, .ref y_ofNode, .ref y_isOwn, .int 0, .ref y_begin, .ref y_size, .ref y_holding, .int 0, .ref y_kept, .int 0])), (y_refused, .inl (g.2 1, 3, .inl (fun _ => 0)))] H locs) (hl : lv_has ls 4 [(3, .int 0), (2, .ref y), (1, .ref x), (0, .ref bs)]) : W pp l ee room_1 s m #[Value.ref bs] bb mm cd H locs 973 728835 (lw_Z bb #[Value.ref bs] s) (F0 m 610 ls []) := by
  have hx := X.1
  have hb := X.2.1
  refine lv_aload_n hx hb dL_law_610 rfl (lv_at hl 2 rfl) ?_
  refine k_i X h [0] [1, 2] (wr := [(y, .inr (7, [.ref y_refused, .ref y_document, .int 0, .int 0, .ref y_variables, .int 0, .ref y_nodes, .ref y_node, .ref y_master, .ref y_isSet, .ref y_setMany, .ref y_setFrom, .ref y_setUsed, .ref y_setText, .ref y_atStop, .ref y_isFresh, .ref y_then, .ref y_choiceMany, .ref y_choiceFrom, .ref y_choiceLong, .ref y_choiceBytes, .int 0, .ref y_text, .int 0, .int 0, .int 0, .int 0, .ref y_open, .int 0, .ref y_shown, .int 0, .int 0, .ref y_nextNode, .ref y_endNode, .ref y_made, .ref y_beganAt, .ref y_ofNode, .ref y_isOwn, .int 0, .ref y_begin, .ref y_size, .ref y_holding, .int 0, .ref y_kept, .int 0])), (y_refused, .inl (g.2 1, 3, .inl (fun _ => 0)))]) rfl rfl rfl (by decide) 973 728835 (Nat.le_of_ble_eq_true rfl) (Nat.le_of_ble_eq_true rfl) (k_runV X h (As := []) (rest := []) (c6_back l g H.size x tx lk pa nO dO) cw_L_97 [0] rfl rfl 0 kl6 rfl rfl rfl (Nat.le_of_ble_eq_true rfl) (Nat.le_of_ble_eq_true rfl) rfl hl.1 rfl (Nat.le_of_ble_eq_true rfl) dL_law_611 (Nat.le_of_ble_eq_true rfl) (Nat.le_of_ble_eq_true rfl)) (fun _ H locs h => ?_)
  have h : ST g (LA s) s [(y, .inr (7, [.ref y_refused, .ref y_document, .int 0, .int 0, .ref y_variables, .int 0, .ref y_nodes, .ref y_node, .ref y_master, .ref y_isSet, .ref y_setMany, .ref y_setFrom, .ref y_setUsed, .ref y_setText, .ref y_atStop, .ref y_isFresh, .ref y_then, .ref y_choiceMany, .ref y_choiceFrom, .ref y_choiceLong, .ref y_choiceBytes, .int 0, .ref y_text, .int 0, .int 0, .int 0, .int 0, .ref y_open, .int 0, .ref y_shown, .int 0, .int 0, .ref y_nextNode, .ref y_endNode, .ref y_made, .ref y_beganAt, .ref y_ofNode, .ref y_isOwn, .int 0, .ref y_begin, .ref y_size, .ref y_holding, .int 0, .ref y_kept, .int 0])), (y_refused, .inl (g.2 1, 3, .inl (fun _ => 0)))] H locs := h
  refine lv_aload_n hx hb dL_law_614 rfl (lv_at hl 1 rfl) ?_
  refine k_i X h [0, 1] [] (wr := []) rfl rfl rfl (by decide) 973 728835 (Nat.le_of_ble_eq_true rfl) (Nat.le_of_ble_eq_true rfl) (k_runV X h (As := []) (rest := [.int (-3)]) (c7_back l g H.size y y_refused y_document y_variables y_nodes y_node y_master y_isSet y_setMany y_setFrom y_setUsed y_setText y_atStop y_isFresh y_then y_choiceMany y_choiceFrom y_choiceLong y_choiceBytes y_text y_open y_shown y_nextNode y_endNode y_made y_beganAt y_ofNode y_isOwn y_begin y_size y_holding y_kept) cw_L_100 [0, 1] rfl rfl 0 kl7 rfl rfl rfl (Nat.le_of_ble_eq_true rfl) (Nat.le_of_ble_eq_true rfl) rfl hl.1 rfl (Nat.le_of_ble_eq_true rfl) dL_law_615 (Nat.le_of_ble_eq_true rfl) (Nat.le_of_ble_eq_true rfl)) (fun _ H locs h => ?_)
  have h : ST g (LA s) s [] H locs := h
  refine lv_icmp_eq (tgt := 660) hx hb dL_law_618 (by decide) (fun c_1 => ?_) (fun c_1 => absurd (by decide) c_1)
  exact law_tail X hX hbl h (lv_sub hl [0, 3] rfl) (Nat.le_of_ble_eq_true rfl) (Nat.le_of_ble_eq_true rfl)

set_option maxHeartbeats 4000000 in
set_option maxRecDepth 100000 in
theorem lw_told_w0 {nm : String} {g : GE} {pp : Program} {l : Launch} {ee : Env} {s : State} {m : MethodId} {bb : List Frame} {mm : Method} {cd : Code} {bs : Nat} {xs : Nat → Int32} {H : Heap} {locs : List Loc} {ls : Array Slot} (X : CX g pp s m mm cd #[Value.ref bs] cL_law 4 RL nm ret (LA s)) (hX : va_X bs 4 xs s s.heap) (hbl : bs < s.heap.size) {y x tx lk pa nO dO y_refused y_document y_variables y_nodes y_node y_master y_isSet y_setMany y_setFrom y_setUsed y_setText y_atStop y_isFresh y_then y_choiceMany y_choiceFrom y_choiceLong y_choiceBytes y_text y_open y_shown y_nextNode y_endNode y_made y_beganAt y_ofNode y_isOwn y_begin y_size y_holding y_kept : Nat} (h : ST g (LA s) s [(x, .inr (6, [.ref tx, .ref lk, .ref pa, .int 0, .ref nO, .ref dO, .int 0, .int 0, .int 0])), (y, .inr (7, [.ref y_refused, .ref y_document, .int 0, .int 0, .ref y_variables, .int 0, .ref y_nodes, .ref y_node, .ref y_master, .ref y_isSet, .ref y_setMany, .ref y_setFrom, .ref y_setUsed, .ref y_setText, .ref y_atStop, .ref y_isFresh, .ref y_then, .ref y_choiceMany, .ref y_choiceFrom, .ref y_choiceLong, .ref y_choiceBytes, .int 0, .ref y_text, .int 0, .int 0, .int 0, .int 0, .ref y_open, .int 0, .ref y_shown, .int 0, .int 0, .ref y_nextNode, .ref y_endNode, .ref y_made, .ref y_beganAt, .ref y_ofNode, .ref y_isOwn, .int 0, .ref y_begin, .ref y_size, .ref y_holding, .int 0, .ref y_kept, .int 0])), (y_refused, .inl (g.2 1, 3, .inl (fun _ => 0)))] H locs) (hl : lv_has ls 4 [(3, .int 0), (2, .ref y), (1, .ref x), (0, .ref bs)]) (e1 : xs 1 = 0) : W pp l ee room_1 s m #[Value.ref bs] bb mm cd H locs 973 728835 (lw_Z bb #[Value.ref bs] s) (F0 m 623 ls []) := by
  have hx := X.1
  have hb := X.2.1
  refine lv_aload_n hx hb dL_law_623 rfl (lv_at hl 2 rfl) ?_
  refine lv_aload_n hx hb dL_law_624 rfl (lv_at hl 3 rfl) ?_
  refine lv_iload_n hx hb dL_law_625 rfl (lv_at hl 0 rfl) ?_
  refine lv_iconst (v := 1) hx hb dL_law_626 (by decide) ?_
  refine lv_iadd hx hb dL_law_627 ?_
  refine r_vi (y := 1) (by decide) ?_
  refine r_sld X hX hbl h (v := xs 1) (vp_lit (by decide +kernel)) rfl dL_law_628 ?_
  refine r_vi (y := 0) e1 ?_
  refine k_i X h [0] [1, 2] (wr := [(y, .inr (7, [.ref y_refused, .ref y_document, .int 0, .int 0, .ref y_variables, .int 0, .ref y_nodes, .ref y_node, .ref y_master, .ref y_isSet, .ref y_setMany, .ref y_setFrom, .ref y_setUsed, .ref y_setText, .ref y_atStop, .ref y_isFresh, .ref y_then, .ref y_choiceMany, .ref y_choiceFrom, .ref y_choiceLong, .ref y_choiceBytes, .int 0, .ref y_text, .int 0, .int 0, .int 0, .int 0, .ref y_open, .int 0, .ref y_shown, .int 0, .int 0, .ref y_nextNode, .ref y_endNode, .ref y_made, .ref y_beganAt, .ref y_ofNode, .ref y_isOwn, .int 0, .ref y_begin, .ref y_size, .ref y_holding, .int 0, .ref y_kept, .int 0])), (y_refused, .inl (g.2 1, 3, .inl (fun _ => 0)))]) rfl rfl rfl (by decide) 973 728835 (Nat.le_of_ble_eq_true rfl) (Nat.le_of_ble_eq_true rfl) (k_runV X h (As := [.int 0]) (rest := []) (c6_told_w0 l g H.size x tx lk pa nO dO) cw_L_101 [0] rfl rfl 0 kl6 rfl rfl rfl (Nat.le_of_ble_eq_true rfl) (Nat.le_of_ble_eq_true rfl) rfl hl.1 rfl (Nat.le_of_ble_eq_true rfl) dL_law_629 (Nat.le_of_ble_eq_true rfl) (Nat.le_of_ble_eq_true rfl)) (fun _ H locs h => ?_)
  have h : ST g (LA s) s [(y, .inr (7, [.ref y_refused, .ref y_document, .int 0, .int 0, .ref y_variables, .int 0, .ref y_nodes, .ref y_node, .ref y_master, .ref y_isSet, .ref y_setMany, .ref y_setFrom, .ref y_setUsed, .ref y_setText, .ref y_atStop, .ref y_isFresh, .ref y_then, .ref y_choiceMany, .ref y_choiceFrom, .ref y_choiceLong, .ref y_choiceBytes, .int 0, .ref y_text, .int 0, .int 0, .int 0, .int 0, .ref y_open, .int 0, .ref y_shown, .int 0, .int 0, .ref y_nextNode, .ref y_endNode, .ref y_made, .ref y_beganAt, .ref y_ofNode, .ref y_isOwn, .int 0, .ref y_begin, .ref y_size, .ref y_holding, .int 0, .ref y_kept, .int 0])), (y_refused, .inl (g.2 1, 3, .inl (fun _ => 0))), (x, .inr (6, [.ref tx, .ref lk, .ref pa, .int 0, .ref nO, .ref dO, .int 0, .int 0, .int 0]))] H locs := h
  refine lv_aload_n hx hb dL_law_632 rfl (lv_at hl 1 rfl) ?_
  refine lv_aload_n hx hb dL_law_633 rfl (lv_at hl 3 rfl) ?_
  refine lv_iload_n hx hb dL_law_634 rfl (lv_at hl 0 rfl) ?_
  refine lv_iconst (v := 1) hx hb dL_law_635 (by decide) ?_
  refine lv_iadd hx hb dL_law_636 ?_
  refine r_vi (y := 1) (by decide) ?_
  refine r_sld X hX hbl h (v := xs 1) (vp_lit (by decide +kernel)) rfl dL_law_637 ?_
  refine r_vi (y := 0) e1 ?_
  refine k_i X h [0, 1] [2] (wr := [(x, .inr (6, [.ref tx, .ref lk, .ref pa, .int 0, .ref nO, .ref dO, .int 0, .int 0, .int 0]))]) rfl rfl rfl (by decide) 973 728835 (Nat.le_of_ble_eq_true rfl) (Nat.le_of_ble_eq_true rfl) (k_runV X h (As := [.int 0]) (rest := [.int 0]) (c7_told_w0 l g H.size y y_refused y_document y_variables y_nodes y_node y_master y_isSet y_setMany y_setFrom y_setUsed y_setText y_atStop y_isFresh y_then y_choiceMany y_choiceFrom y_choiceLong y_choiceBytes y_text y_open y_shown y_nextNode y_endNode y_made y_beganAt y_ofNode y_isOwn y_begin y_size y_holding y_kept) cw_L_104 [0, 1] rfl rfl 0 kl7 rfl rfl rfl (Nat.le_of_ble_eq_true rfl) (Nat.le_of_ble_eq_true rfl) rfl hl.1 rfl (Nat.le_of_ble_eq_true rfl) dL_law_638 (Nat.le_of_ble_eq_true rfl) (Nat.le_of_ble_eq_true rfl)) (fun _ H locs h => ?_)
  have h : ST g (LA s) s [(x, .inr (6, [.ref tx, .ref lk, .ref pa, .int 0, .ref nO, .ref dO, .int 0, .int 0, .int 0]))] H locs := h
  refine lv_icmp_eq (tgt := 660) hx hb dL_law_641 (by decide) (fun c_1 => ?_) (fun c_1 => absurd (by decide) c_1)
  exact law_tail X hX hbl h (lv_sub hl [0, 3] rfl) (Nat.le_of_ble_eq_true rfl) (Nat.le_of_ble_eq_true rfl)

set_option maxHeartbeats 4000000 in
set_option maxRecDepth 100000 in
theorem lw_told_w1 {nm : String} {g : GE} {pp : Program} {l : Launch} {ee : Env} {s : State} {m : MethodId} {bb : List Frame} {mm : Method} {cd : Code} {bs : Nat} {xs : Nat → Int32} {H : Heap} {locs : List Loc} {ls : Array Slot} (X : CX g pp s m mm cd #[Value.ref bs] cL_law 4 RL nm ret (LA s)) (hX : va_X bs 4 xs s s.heap) (hbl : bs < s.heap.size) {y x tx lk pa nO dO y_refused y_document y_variables y_nodes y_node y_master y_isSet y_setMany y_setFrom y_setUsed y_setText y_atStop y_isFresh y_then y_choiceMany y_choiceFrom y_choiceLong y_choiceBytes y_text y_open y_shown y_nextNode y_endNode y_made y_beganAt y_ofNode y_isOwn y_begin y_size y_holding y_kept : Nat} (h : ST g (LA s) s [(x, .inr (6, [.ref tx, .ref lk, .ref pa, .int 0, .ref nO, .ref dO, .int 0, .int 0, .int 0])), (y, .inr (7, [.ref y_refused, .ref y_document, .int 0, .int 0, .ref y_variables, .int 0, .ref y_nodes, .ref y_node, .ref y_master, .ref y_isSet, .ref y_setMany, .ref y_setFrom, .ref y_setUsed, .ref y_setText, .ref y_atStop, .ref y_isFresh, .ref y_then, .ref y_choiceMany, .ref y_choiceFrom, .ref y_choiceLong, .ref y_choiceBytes, .int 0, .ref y_text, .int 0, .int 0, .int 0, .int 0, .ref y_open, .int 0, .ref y_shown, .int 0, .int 0, .ref y_nextNode, .ref y_endNode, .ref y_made, .ref y_beganAt, .ref y_ofNode, .ref y_isOwn, .int 0, .ref y_begin, .ref y_size, .ref y_holding, .int 0, .ref y_kept, .int 0])), (y_refused, .inl (g.2 1, 3, .inl (fun _ => 0)))] H locs) (hl : lv_has ls 4 [(3, .int 0), (2, .ref y), (1, .ref x), (0, .ref bs)]) (e1 : xs 1 = 1) : W pp l ee room_1 s m #[Value.ref bs] bb mm cd H locs 973 728835 (lw_Z bb #[Value.ref bs] s) (F0 m 623 ls []) := by
  have hx := X.1
  have hb := X.2.1
  refine lv_aload_n hx hb dL_law_623 rfl (lv_at hl 2 rfl) ?_
  refine lv_aload_n hx hb dL_law_624 rfl (lv_at hl 3 rfl) ?_
  refine lv_iload_n hx hb dL_law_625 rfl (lv_at hl 0 rfl) ?_
  refine lv_iconst (v := 1) hx hb dL_law_626 (by decide) ?_
  refine lv_iadd hx hb dL_law_627 ?_
  refine r_vi (y := 1) (by decide) ?_
  refine r_sld X hX hbl h (v := xs 1) (vp_lit (by decide +kernel)) rfl dL_law_628 ?_
  refine r_vi (y := 1) e1 ?_
  refine k_i X h [0] [1, 2] (wr := [(y, .inr (7, [.ref y_refused, .ref y_document, .int 0, .int 0, .ref y_variables, .int 0, .ref y_nodes, .ref y_node, .ref y_master, .ref y_isSet, .ref y_setMany, .ref y_setFrom, .ref y_setUsed, .ref y_setText, .ref y_atStop, .ref y_isFresh, .ref y_then, .ref y_choiceMany, .ref y_choiceFrom, .ref y_choiceLong, .ref y_choiceBytes, .int 0, .ref y_text, .int 0, .int 0, .int 0, .int 0, .ref y_open, .int 0, .ref y_shown, .int 0, .int 0, .ref y_nextNode, .ref y_endNode, .ref y_made, .ref y_beganAt, .ref y_ofNode, .ref y_isOwn, .int 0, .ref y_begin, .ref y_size, .ref y_holding, .int 0, .ref y_kept, .int 0])), (y_refused, .inl (g.2 1, 3, .inl (fun _ => 0)))]) rfl rfl rfl (by decide) 973 728835 (Nat.le_of_ble_eq_true rfl) (Nat.le_of_ble_eq_true rfl) (k_runV X h (As := [.int 1]) (rest := []) (c6_told_w1 l g H.size x tx lk pa nO dO) cw_L_101 [0] rfl rfl 0 kl6 rfl rfl rfl (Nat.le_of_ble_eq_true rfl) (Nat.le_of_ble_eq_true rfl) rfl hl.1 rfl (Nat.le_of_ble_eq_true rfl) dL_law_629 (Nat.le_of_ble_eq_true rfl) (Nat.le_of_ble_eq_true rfl)) (fun _ H locs h => ?_)
  have h : ST g (LA s) s [(y, .inr (7, [.ref y_refused, .ref y_document, .int 0, .int 0, .ref y_variables, .int 0, .ref y_nodes, .ref y_node, .ref y_master, .ref y_isSet, .ref y_setMany, .ref y_setFrom, .ref y_setUsed, .ref y_setText, .ref y_atStop, .ref y_isFresh, .ref y_then, .ref y_choiceMany, .ref y_choiceFrom, .ref y_choiceLong, .ref y_choiceBytes, .int 0, .ref y_text, .int 0, .int 0, .int 0, .int 0, .ref y_open, .int 0, .ref y_shown, .int 0, .int 0, .ref y_nextNode, .ref y_endNode, .ref y_made, .ref y_beganAt, .ref y_ofNode, .ref y_isOwn, .int 0, .ref y_begin, .ref y_size, .ref y_holding, .int 0, .ref y_kept, .int 0])), (y_refused, .inl (g.2 1, 3, .inl (fun _ => 0))), (x, .inr (6, [.ref tx, .ref lk, .ref pa, .int 0, .ref nO, .ref dO, .int 0, .int 0, .int 0]))] H locs := h
  refine lv_aload_n hx hb dL_law_632 rfl (lv_at hl 1 rfl) ?_
  refine lv_aload_n hx hb dL_law_633 rfl (lv_at hl 3 rfl) ?_
  refine lv_iload_n hx hb dL_law_634 rfl (lv_at hl 0 rfl) ?_
  refine lv_iconst (v := 1) hx hb dL_law_635 (by decide) ?_
  refine lv_iadd hx hb dL_law_636 ?_
  refine r_vi (y := 1) (by decide) ?_
  refine r_sld X hX hbl h (v := xs 1) (vp_lit (by decide +kernel)) rfl dL_law_637 ?_
  refine r_vi (y := 1) e1 ?_
  refine k_i X h [0, 1] [2] (wr := [(x, .inr (6, [.ref tx, .ref lk, .ref pa, .int 0, .ref nO, .ref dO, .int 0, .int 0, .int 0]))]) rfl rfl rfl (by decide) 973 728835 (Nat.le_of_ble_eq_true rfl) (Nat.le_of_ble_eq_true rfl) (k_runV X h (As := [.int 1]) (rest := [.int 0]) (c7_told_w1 l g H.size y y_refused y_document y_variables y_nodes y_node y_master y_isSet y_setMany y_setFrom y_setUsed y_setText y_atStop y_isFresh y_then y_choiceMany y_choiceFrom y_choiceLong y_choiceBytes y_text y_open y_shown y_nextNode y_endNode y_made y_beganAt y_ofNode y_isOwn y_begin y_size y_holding y_kept) cw_L_104 [0, 1] rfl rfl 0 kl7 rfl rfl rfl (Nat.le_of_ble_eq_true rfl) (Nat.le_of_ble_eq_true rfl) rfl hl.1 rfl (Nat.le_of_ble_eq_true rfl) dL_law_638 (Nat.le_of_ble_eq_true rfl) (Nat.le_of_ble_eq_true rfl)) (fun _ H locs h => ?_)
  have h : ST g (LA s) s [(x, .inr (6, [.ref tx, .ref lk, .ref pa, .int 0, .ref nO, .ref dO, .int 0, .int 0, .int 0]))] H locs := h
  refine lv_icmp_eq (tgt := 660) hx hb dL_law_641 (by decide) (fun c_1 => ?_) (fun c_1 => absurd (by decide) c_1)
  exact law_tail X hX hbl h (lv_sub hl [0, 3] rfl) (Nat.le_of_ble_eq_true rfl) (Nat.le_of_ble_eq_true rfl)

set_option maxHeartbeats 4000000 in
set_option maxRecDepth 100000 in
theorem lw_told_w2 {nm : String} {g : GE} {pp : Program} {l : Launch} {ee : Env} {s : State} {m : MethodId} {bb : List Frame} {mm : Method} {cd : Code} {bs : Nat} {xs : Nat → Int32} {H : Heap} {locs : List Loc} {ls : Array Slot} (X : CX g pp s m mm cd #[Value.ref bs] cL_law 4 RL nm ret (LA s)) (hX : va_X bs 4 xs s s.heap) (hbl : bs < s.heap.size) {y x tx lk pa nO dO y_refused y_document y_variables y_nodes y_node y_master y_isSet y_setMany y_setFrom y_setUsed y_setText y_atStop y_isFresh y_then y_choiceMany y_choiceFrom y_choiceLong y_choiceBytes y_text y_open y_shown y_nextNode y_endNode y_made y_beganAt y_ofNode y_isOwn y_begin y_size y_holding y_kept : Nat} (h : ST g (LA s) s [(x, .inr (6, [.ref tx, .ref lk, .ref pa, .int 0, .ref nO, .ref dO, .int 0, .int 0, .int 0])), (y, .inr (7, [.ref y_refused, .ref y_document, .int 0, .int 0, .ref y_variables, .int 0, .ref y_nodes, .ref y_node, .ref y_master, .ref y_isSet, .ref y_setMany, .ref y_setFrom, .ref y_setUsed, .ref y_setText, .ref y_atStop, .ref y_isFresh, .ref y_then, .ref y_choiceMany, .ref y_choiceFrom, .ref y_choiceLong, .ref y_choiceBytes, .int 0, .ref y_text, .int 0, .int 0, .int 0, .int 0, .ref y_open, .int 0, .ref y_shown, .int 0, .int 0, .ref y_nextNode, .ref y_endNode, .ref y_made, .ref y_beganAt, .ref y_ofNode, .ref y_isOwn, .int 0, .ref y_begin, .ref y_size, .ref y_holding, .int 0, .ref y_kept, .int 0])), (y_refused, .inl (g.2 1, 3, .inl (fun _ => 0)))] H locs) (hl : lv_has ls 4 [(3, .int 0), (2, .ref y), (1, .ref x), (0, .ref bs)]) (e1 : xs 1 = 2) : W pp l ee room_1 s m #[Value.ref bs] bb mm cd H locs 973 728835 (lw_Z bb #[Value.ref bs] s) (F0 m 623 ls []) := by
  have hx := X.1
  have hb := X.2.1
  refine lv_aload_n hx hb dL_law_623 rfl (lv_at hl 2 rfl) ?_
  refine lv_aload_n hx hb dL_law_624 rfl (lv_at hl 3 rfl) ?_
  refine lv_iload_n hx hb dL_law_625 rfl (lv_at hl 0 rfl) ?_
  refine lv_iconst (v := 1) hx hb dL_law_626 (by decide) ?_
  refine lv_iadd hx hb dL_law_627 ?_
  refine r_vi (y := 1) (by decide) ?_
  refine r_sld X hX hbl h (v := xs 1) (vp_lit (by decide +kernel)) rfl dL_law_628 ?_
  refine r_vi (y := 2) e1 ?_
  refine k_i X h [0] [1, 2] (wr := [(y, .inr (7, [.ref y_refused, .ref y_document, .int 0, .int 0, .ref y_variables, .int 0, .ref y_nodes, .ref y_node, .ref y_master, .ref y_isSet, .ref y_setMany, .ref y_setFrom, .ref y_setUsed, .ref y_setText, .ref y_atStop, .ref y_isFresh, .ref y_then, .ref y_choiceMany, .ref y_choiceFrom, .ref y_choiceLong, .ref y_choiceBytes, .int 0, .ref y_text, .int 0, .int 0, .int 0, .int 0, .ref y_open, .int 0, .ref y_shown, .int 0, .int 0, .ref y_nextNode, .ref y_endNode, .ref y_made, .ref y_beganAt, .ref y_ofNode, .ref y_isOwn, .int 0, .ref y_begin, .ref y_size, .ref y_holding, .int 0, .ref y_kept, .int 0])), (y_refused, .inl (g.2 1, 3, .inl (fun _ => 0)))]) rfl rfl rfl (by decide) 973 728835 (Nat.le_of_ble_eq_true rfl) (Nat.le_of_ble_eq_true rfl) (k_runV X h (As := [.int 2]) (rest := []) (c6_told_w2 l g H.size x tx lk pa nO dO) cw_L_101 [0] rfl rfl 0 kl6 rfl rfl rfl (Nat.le_of_ble_eq_true rfl) (Nat.le_of_ble_eq_true rfl) rfl hl.1 rfl (Nat.le_of_ble_eq_true rfl) dL_law_629 (Nat.le_of_ble_eq_true rfl) (Nat.le_of_ble_eq_true rfl)) (fun _ H locs h => ?_)
  have h : ST g (LA s) s [(y, .inr (7, [.ref y_refused, .ref y_document, .int 0, .int 0, .ref y_variables, .int 0, .ref y_nodes, .ref y_node, .ref y_master, .ref y_isSet, .ref y_setMany, .ref y_setFrom, .ref y_setUsed, .ref y_setText, .ref y_atStop, .ref y_isFresh, .ref y_then, .ref y_choiceMany, .ref y_choiceFrom, .ref y_choiceLong, .ref y_choiceBytes, .int 0, .ref y_text, .int 0, .int 0, .int 0, .int 0, .ref y_open, .int 0, .ref y_shown, .int 0, .int 0, .ref y_nextNode, .ref y_endNode, .ref y_made, .ref y_beganAt, .ref y_ofNode, .ref y_isOwn, .int 0, .ref y_begin, .ref y_size, .ref y_holding, .int 0, .ref y_kept, .int 0])), (y_refused, .inl (g.2 1, 3, .inl (fun _ => 0))), (x, .inr (6, [.ref tx, .ref lk, .ref pa, .int 0, .ref nO, .ref dO, .int 0, .int 0, .int 0]))] H locs := h
  refine lv_aload_n hx hb dL_law_632 rfl (lv_at hl 1 rfl) ?_
  refine lv_aload_n hx hb dL_law_633 rfl (lv_at hl 3 rfl) ?_
  refine lv_iload_n hx hb dL_law_634 rfl (lv_at hl 0 rfl) ?_
  refine lv_iconst (v := 1) hx hb dL_law_635 (by decide) ?_
  refine lv_iadd hx hb dL_law_636 ?_
  refine r_vi (y := 1) (by decide) ?_
  refine r_sld X hX hbl h (v := xs 1) (vp_lit (by decide +kernel)) rfl dL_law_637 ?_
  refine r_vi (y := 2) e1 ?_
  refine k_i X h [0, 1] [2] (wr := [(x, .inr (6, [.ref tx, .ref lk, .ref pa, .int 0, .ref nO, .ref dO, .int 0, .int 0, .int 0]))]) rfl rfl rfl (by decide) 973 728835 (Nat.le_of_ble_eq_true rfl) (Nat.le_of_ble_eq_true rfl) (k_runV X h (As := [.int 2]) (rest := [.int 0]) (c7_told_w2 l g H.size y y_refused y_document y_variables y_nodes y_node y_master y_isSet y_setMany y_setFrom y_setUsed y_setText y_atStop y_isFresh y_then y_choiceMany y_choiceFrom y_choiceLong y_choiceBytes y_text y_open y_shown y_nextNode y_endNode y_made y_beganAt y_ofNode y_isOwn y_begin y_size y_holding y_kept) cw_L_104 [0, 1] rfl rfl 0 kl7 rfl rfl rfl (Nat.le_of_ble_eq_true rfl) (Nat.le_of_ble_eq_true rfl) rfl hl.1 rfl (Nat.le_of_ble_eq_true rfl) dL_law_638 (Nat.le_of_ble_eq_true rfl) (Nat.le_of_ble_eq_true rfl)) (fun _ H locs h => ?_)
  have h : ST g (LA s) s [(x, .inr (6, [.ref tx, .ref lk, .ref pa, .int 0, .ref nO, .ref dO, .int 0, .int 0, .int 0]))] H locs := h
  refine lv_icmp_eq (tgt := 660) hx hb dL_law_641 (by decide) (fun c_1 => ?_) (fun c_1 => absurd (by decide) c_1)
  exact law_tail X hX hbl h (lv_sub hl [0, 3] rfl) (Nat.le_of_ble_eq_true rfl) (Nat.le_of_ble_eq_true rfl)

set_option maxHeartbeats 4000000 in
set_option maxRecDepth 100000 in
theorem lw_told_w3 {nm : String} {g : GE} {pp : Program} {l : Launch} {ee : Env} {s : State} {m : MethodId} {bb : List Frame} {mm : Method} {cd : Code} {bs : Nat} {xs : Nat → Int32} {H : Heap} {locs : List Loc} {ls : Array Slot} (X : CX g pp s m mm cd #[Value.ref bs] cL_law 4 RL nm ret (LA s)) (hX : va_X bs 4 xs s s.heap) (hbl : bs < s.heap.size) {y x tx lk pa nO dO txb y_refused y_document y_variables y_nodes y_node y_master y_isSet y_setMany y_setFrom y_setUsed y_setText y_atStop y_isFresh y_then y_choiceMany y_choiceFrom y_choiceLong y_choiceBytes y_text y_open y_shown y_nextNode y_endNode y_made y_beganAt y_ofNode y_isOwn y_begin y_size y_holding y_kept : Nat} (h : ST g (LA s) s [(x, .inr (6, [.ref tx, .ref lk, .ref pa, .int 0, .ref nO, .ref dO, .int 0, .int 0, .int 0])), (tx, .inr (2, [.int 120, .ref txb, .int 0])), (y, .inr (7, [.ref y_refused, .ref y_document, .int 0, .int 0, .ref y_variables, .int 0, .ref y_nodes, .ref y_node, .ref y_master, .ref y_isSet, .ref y_setMany, .ref y_setFrom, .ref y_setUsed, .ref y_setText, .ref y_atStop, .ref y_isFresh, .ref y_then, .ref y_choiceMany, .ref y_choiceFrom, .ref y_choiceLong, .ref y_choiceBytes, .int 0, .ref y_text, .int 0, .int 0, .int 0, .int 0, .ref y_open, .int 0, .ref y_shown, .int 0, .int 0, .ref y_nextNode, .ref y_endNode, .ref y_made, .ref y_beganAt, .ref y_ofNode, .ref y_isOwn, .int 0, .ref y_begin, .ref y_size, .ref y_holding, .int 0, .ref y_kept, .int 0]))] H locs) (hl : lv_has ls 4 [(3, .int 0), (2, .ref y), (1, .ref x), (0, .ref bs)]) (e1 : xs 1 = 3) : W pp l ee room_1 s m #[Value.ref bs] bb mm cd H locs 973 728835 (lw_Z bb #[Value.ref bs] s) (F0 m 623 ls []) := by
  have hx := X.1
  have hb := X.2.1
  refine lv_aload_n hx hb dL_law_623 rfl (lv_at hl 2 rfl) ?_
  refine lv_aload_n hx hb dL_law_624 rfl (lv_at hl 3 rfl) ?_
  refine lv_iload_n hx hb dL_law_625 rfl (lv_at hl 0 rfl) ?_
  refine lv_iconst (v := 1) hx hb dL_law_626 (by decide) ?_
  refine lv_iadd hx hb dL_law_627 ?_
  refine r_vi (y := 1) (by decide) ?_
  refine r_sld X hX hbl h (v := xs 1) (vp_lit (by decide +kernel)) rfl dL_law_628 ?_
  refine r_vi (y := 3) e1 ?_
  refine k_i X h [0, 1] [2] (wr := [(y, .inr (7, [.ref y_refused, .ref y_document, .int 0, .int 0, .ref y_variables, .int 0, .ref y_nodes, .ref y_node, .ref y_master, .ref y_isSet, .ref y_setMany, .ref y_setFrom, .ref y_setUsed, .ref y_setText, .ref y_atStop, .ref y_isFresh, .ref y_then, .ref y_choiceMany, .ref y_choiceFrom, .ref y_choiceLong, .ref y_choiceBytes, .int 0, .ref y_text, .int 0, .int 0, .int 0, .int 0, .ref y_open, .int 0, .ref y_shown, .int 0, .int 0, .ref y_nextNode, .ref y_endNode, .ref y_made, .ref y_beganAt, .ref y_ofNode, .ref y_isOwn, .int 0, .ref y_begin, .ref y_size, .ref y_holding, .int 0, .ref y_kept, .int 0]))]) rfl rfl rfl (by decide) 973 728835 (Nat.le_of_ble_eq_true rfl) (Nat.le_of_ble_eq_true rfl) (k_runV X h (As := [.int 3]) (rest := []) (c6_told_w3 l g H.size x tx lk pa nO dO txb) cw_L_101 [0, 1] rfl rfl 0 kl6 rfl rfl rfl (Nat.le_of_ble_eq_true rfl) (Nat.le_of_ble_eq_true rfl) rfl hl.1 rfl (Nat.le_of_ble_eq_true rfl) dL_law_629 (Nat.le_of_ble_eq_true rfl) (Nat.le_of_ble_eq_true rfl)) (fun _ H locs h => ?_)
  have h : ST g (LA s) s [(y, .inr (7, [.ref y_refused, .ref y_document, .int 0, .int 0, .ref y_variables, .int 0, .ref y_nodes, .ref y_node, .ref y_master, .ref y_isSet, .ref y_setMany, .ref y_setFrom, .ref y_setUsed, .ref y_setText, .ref y_atStop, .ref y_isFresh, .ref y_then, .ref y_choiceMany, .ref y_choiceFrom, .ref y_choiceLong, .ref y_choiceBytes, .int 0, .ref y_text, .int 0, .int 0, .int 0, .int 0, .ref y_open, .int 0, .ref y_shown, .int 0, .int 0, .ref y_nextNode, .ref y_endNode, .ref y_made, .ref y_beganAt, .ref y_ofNode, .ref y_isOwn, .int 0, .ref y_begin, .ref y_size, .ref y_holding, .int 0, .ref y_kept, .int 0])), (x, .inr (6, [.ref tx, .ref lk, .ref pa, .int 0, .ref nO, .ref dO, .int 0, .int 0, .int 0])), (tx, .inr (2, [.int 120, .ref txb, .int 0]))] H locs := h
  refine lv_aload_n hx hb dL_law_632 rfl (lv_at hl 1 rfl) ?_
  refine lv_aload_n hx hb dL_law_633 rfl (lv_at hl 3 rfl) ?_
  refine lv_iload_n hx hb dL_law_634 rfl (lv_at hl 0 rfl) ?_
  refine lv_iconst (v := 1) hx hb dL_law_635 (by decide) ?_
  refine lv_iadd hx hb dL_law_636 ?_
  refine r_vi (y := 1) (by decide) ?_
  refine r_sld X hX hbl h (v := xs 1) (vp_lit (by decide +kernel)) rfl dL_law_637 ?_
  refine r_vi (y := 3) e1 ?_
  refine k_i X h [0] [1, 2] (wr := [(x, .inr (6, [.ref tx, .ref lk, .ref pa, .int 0, .ref nO, .ref dO, .int 0, .int 0, .int 0])), (tx, .inr (2, [.int 120, .ref txb, .int 0]))]) rfl rfl rfl (by decide) 973 728835 (Nat.le_of_ble_eq_true rfl) (Nat.le_of_ble_eq_true rfl) (k_runV X h (As := [.int 3]) (rest := [.int 0]) (c7_told_w3 l g H.size y y_refused y_document y_variables y_nodes y_node y_master y_isSet y_setMany y_setFrom y_setUsed y_setText y_atStop y_isFresh y_then y_choiceMany y_choiceFrom y_choiceLong y_choiceBytes y_text y_open y_shown y_nextNode y_endNode y_made y_beganAt y_ofNode y_isOwn y_begin y_size y_holding y_kept) cw_L_104 [0] rfl rfl 0 kl7 rfl rfl rfl (Nat.le_of_ble_eq_true rfl) (Nat.le_of_ble_eq_true rfl) rfl hl.1 rfl (Nat.le_of_ble_eq_true rfl) dL_law_638 (Nat.le_of_ble_eq_true rfl) (Nat.le_of_ble_eq_true rfl)) (fun _ H locs h => ?_)
  have h : ST g (LA s) s [(x, .inr (6, [.ref tx, .ref lk, .ref pa, .int 0, .ref nO, .ref dO, .int 0, .int 0, .int 0])), (tx, .inr (2, [.int 120, .ref txb, .int 0]))] H locs := h
  refine lv_icmp_eq (tgt := 660) hx hb dL_law_641 (by decide) (fun c_1 => ?_) (fun c_1 => absurd (by decide) c_1)
  exact law_tail X hX hbl h (lv_sub hl [0, 3] rfl) (Nat.le_of_ble_eq_true rfl) (Nat.le_of_ble_eq_true rfl)

set_option maxHeartbeats 4000000 in
set_option maxRecDepth 100000 in
theorem lw_told_w4 {nm : String} {g : GE} {pp : Program} {l : Launch} {ee : Env} {s : State} {m : MethodId} {bb : List Frame} {mm : Method} {cd : Code} {bs : Nat} {xs : Nat → Int32} {H : Heap} {locs : List Loc} {ls : Array Slot} (X : CX g pp s m mm cd #[Value.ref bs] cL_law 4 RL nm ret (LA s)) (hX : va_X bs 4 xs s s.heap) (hbl : bs < s.heap.size) {y x tx lk pa nO dO y_refused y_document y_variables y_nodes y_node y_master y_isSet y_setMany y_setFrom y_setUsed y_setText y_atStop y_isFresh y_then y_choiceMany y_choiceFrom y_choiceLong y_choiceBytes y_text y_open y_shown y_nextNode y_endNode y_made y_beganAt y_ofNode y_isOwn y_begin y_size y_holding y_kept : Nat} (h : ST g (LA s) s [(x, .inr (6, [.ref tx, .ref lk, .ref pa, .int 0, .ref nO, .ref dO, .int 0, .int 0, .int 0])), (y, .inr (7, [.ref y_refused, .ref y_document, .int 0, .int 0, .ref y_variables, .int 0, .ref y_nodes, .ref y_node, .ref y_master, .ref y_isSet, .ref y_setMany, .ref y_setFrom, .ref y_setUsed, .ref y_setText, .ref y_atStop, .ref y_isFresh, .ref y_then, .ref y_choiceMany, .ref y_choiceFrom, .ref y_choiceLong, .ref y_choiceBytes, .int 0, .ref y_text, .int 0, .int 0, .int 0, .int 0, .ref y_open, .int 0, .ref y_shown, .int 0, .int 0, .ref y_nextNode, .ref y_endNode, .ref y_made, .ref y_beganAt, .ref y_ofNode, .ref y_isOwn, .int 0, .ref y_begin, .ref y_size, .ref y_holding, .int 0, .ref y_kept, .int 0]))] H locs) (hl : lv_has ls 4 [(3, .int 0), (2, .ref y), (1, .ref x), (0, .ref bs)]) (e1 : xs 1 = 4) : W pp l ee room_1 s m #[Value.ref bs] bb mm cd H locs 973 728835 (lw_Z bb #[Value.ref bs] s) (F0 m 623 ls []) := by
  have hx := X.1
  have hb := X.2.1
  refine lv_aload_n hx hb dL_law_623 rfl (lv_at hl 2 rfl) ?_
  refine lv_aload_n hx hb dL_law_624 rfl (lv_at hl 3 rfl) ?_
  refine lv_iload_n hx hb dL_law_625 rfl (lv_at hl 0 rfl) ?_
  refine lv_iconst (v := 1) hx hb dL_law_626 (by decide) ?_
  refine lv_iadd hx hb dL_law_627 ?_
  refine r_vi (y := 1) (by decide) ?_
  refine r_sld X hX hbl h (v := xs 1) (vp_lit (by decide +kernel)) rfl dL_law_628 ?_
  refine r_vi (y := 4) e1 ?_
  refine k_i X h [0] [1] (wr := [(y, .inr (7, [.ref y_refused, .ref y_document, .int 0, .int 0, .ref y_variables, .int 0, .ref y_nodes, .ref y_node, .ref y_master, .ref y_isSet, .ref y_setMany, .ref y_setFrom, .ref y_setUsed, .ref y_setText, .ref y_atStop, .ref y_isFresh, .ref y_then, .ref y_choiceMany, .ref y_choiceFrom, .ref y_choiceLong, .ref y_choiceBytes, .int 0, .ref y_text, .int 0, .int 0, .int 0, .int 0, .ref y_open, .int 0, .ref y_shown, .int 0, .int 0, .ref y_nextNode, .ref y_endNode, .ref y_made, .ref y_beganAt, .ref y_ofNode, .ref y_isOwn, .int 0, .ref y_begin, .ref y_size, .ref y_holding, .int 0, .ref y_kept, .int 0]))]) rfl rfl rfl (by decide) 973 728835 (Nat.le_of_ble_eq_true rfl) (Nat.le_of_ble_eq_true rfl) (k_runV X h (As := [.int 4]) (rest := []) (c6_told_w4 l g H.size x tx lk pa nO dO) cw_L_101 [0] rfl rfl 0 kl6 rfl rfl rfl (Nat.le_of_ble_eq_true rfl) (Nat.le_of_ble_eq_true rfl) rfl hl.1 rfl (Nat.le_of_ble_eq_true rfl) dL_law_629 (Nat.le_of_ble_eq_true rfl) (Nat.le_of_ble_eq_true rfl)) (fun _ H locs h => ?_)
  have h : ST g (LA s) s [(y, .inr (7, [.ref y_refused, .ref y_document, .int 0, .int 0, .ref y_variables, .int 0, .ref y_nodes, .ref y_node, .ref y_master, .ref y_isSet, .ref y_setMany, .ref y_setFrom, .ref y_setUsed, .ref y_setText, .ref y_atStop, .ref y_isFresh, .ref y_then, .ref y_choiceMany, .ref y_choiceFrom, .ref y_choiceLong, .ref y_choiceBytes, .int 0, .ref y_text, .int 0, .int 0, .int 0, .int 0, .ref y_open, .int 0, .ref y_shown, .int 0, .int 0, .ref y_nextNode, .ref y_endNode, .ref y_made, .ref y_beganAt, .ref y_ofNode, .ref y_isOwn, .int 0, .ref y_begin, .ref y_size, .ref y_holding, .int 0, .ref y_kept, .int 0])), (x, .inr (6, [.ref tx, .ref lk, .ref pa, .int 0, .ref nO, .ref dO, .int 0, .int 0, .int 0]))] H locs := h
  refine lv_aload_n hx hb dL_law_632 rfl (lv_at hl 1 rfl) ?_
  refine lv_aload_n hx hb dL_law_633 rfl (lv_at hl 3 rfl) ?_
  refine lv_iload_n hx hb dL_law_634 rfl (lv_at hl 0 rfl) ?_
  refine lv_iconst (v := 1) hx hb dL_law_635 (by decide) ?_
  refine lv_iadd hx hb dL_law_636 ?_
  refine r_vi (y := 1) (by decide) ?_
  refine r_sld X hX hbl h (v := xs 1) (vp_lit (by decide +kernel)) rfl dL_law_637 ?_
  refine r_vi (y := 4) e1 ?_
  refine k_i X h [0] [1] (wr := [(x, .inr (6, [.ref tx, .ref lk, .ref pa, .int 0, .ref nO, .ref dO, .int 0, .int 0, .int 0]))]) rfl rfl rfl (by decide) 973 728835 (Nat.le_of_ble_eq_true rfl) (Nat.le_of_ble_eq_true rfl) (k_runV X h (As := [.int 4]) (rest := [.int 0]) (c7_told_w4 l g H.size y y_refused y_document y_variables y_nodes y_node y_master y_isSet y_setMany y_setFrom y_setUsed y_setText y_atStop y_isFresh y_then y_choiceMany y_choiceFrom y_choiceLong y_choiceBytes y_text y_open y_shown y_nextNode y_endNode y_made y_beganAt y_ofNode y_isOwn y_begin y_size y_holding y_kept) cw_L_104 [0] rfl rfl 0 kl7 rfl rfl rfl (Nat.le_of_ble_eq_true rfl) (Nat.le_of_ble_eq_true rfl) rfl hl.1 rfl (Nat.le_of_ble_eq_true rfl) dL_law_638 (Nat.le_of_ble_eq_true rfl) (Nat.le_of_ble_eq_true rfl)) (fun _ H locs h => ?_)
  have h : ST g (LA s) s [(x, .inr (6, [.ref tx, .ref lk, .ref pa, .int 0, .ref nO, .ref dO, .int 0, .int 0, .int 0]))] H locs := h
  refine lv_icmp_eq (tgt := 660) hx hb dL_law_641 (by decide) (fun c_1 => ?_) (fun c_1 => absurd (by decide) c_1)
  exact law_tail X hX hbl h (lv_sub hl [0, 3] rfl) (Nat.le_of_ble_eq_true rfl) (Nat.le_of_ble_eq_true rfl)

set_option maxHeartbeats 4000000 in
set_option maxRecDepth 100000 in
theorem lw_told_lo {nm : String} {g : GE} {pp : Program} {l : Launch} {ee : Env} {s : State} {m : MethodId} {bb : List Frame} {mm : Method} {cd : Code} {bs : Nat} {xs : Nat → Int32} {H : Heap} {locs : List Loc} {ls : Array Slot} (X : CX g pp s m mm cd #[Value.ref bs] cL_law 4 RL nm ret (LA s)) (hX : va_X bs 4 xs s s.heap) (hbl : bs < s.heap.size) {y x tx lk pa nO dO y_refused y_document y_variables y_nodes y_node y_master y_isSet y_setMany y_setFrom y_setUsed y_setText y_atStop y_isFresh y_then y_choiceMany y_choiceFrom y_choiceLong y_choiceBytes y_text y_open y_shown y_nextNode y_endNode y_made y_beganAt y_ofNode y_isOwn y_begin y_size y_holding y_kept : Nat} (h : ST g (LA s) s [(x, .inr (6, [.ref tx, .ref lk, .ref pa, .int 0, .ref nO, .ref dO, .int 0, .int 0, .int 0])), (y, .inr (7, [.ref y_refused, .ref y_document, .int 0, .int 0, .ref y_variables, .int 0, .ref y_nodes, .ref y_node, .ref y_master, .ref y_isSet, .ref y_setMany, .ref y_setFrom, .ref y_setUsed, .ref y_setText, .ref y_atStop, .ref y_isFresh, .ref y_then, .ref y_choiceMany, .ref y_choiceFrom, .ref y_choiceLong, .ref y_choiceBytes, .int 0, .ref y_text, .int 0, .int 0, .int 0, .int 0, .ref y_open, .int 0, .ref y_shown, .int 0, .int 0, .ref y_nextNode, .ref y_endNode, .ref y_made, .ref y_beganAt, .ref y_ofNode, .ref y_isOwn, .int 0, .ref y_begin, .ref y_size, .ref y_holding, .int 0, .ref y_kept, .int 0])), (y_refused, .inl (g.2 1, 3, .inl (fun _ => 0)))] H locs) (hl : lv_has ls 4 [(3, .int 0), (2, .ref y), (1, .ref x), (0, .ref bs)]) {c : Int32} (e1 : xs 1 = c) (h1 : c < 0) (h3 : Int32.toInt c < 0 ∨ 4 < Int32.toInt c) : W pp l ee room_1 s m #[Value.ref bs] bb mm cd H locs 973 728835 (lw_Z bb #[Value.ref bs] s) (F0 m 623 ls []) := by
  have hx := X.1
  have hb := X.2.1
  refine lv_aload_n hx hb dL_law_623 rfl (lv_at hl 2 rfl) ?_
  refine lv_aload_n hx hb dL_law_624 rfl (lv_at hl 3 rfl) ?_
  refine lv_iload_n hx hb dL_law_625 rfl (lv_at hl 0 rfl) ?_
  refine lv_iconst (v := 1) hx hb dL_law_626 (by decide) ?_
  refine lv_iadd hx hb dL_law_627 ?_
  refine r_vi (y := 1) (by decide) ?_
  refine r_sld X hX hbl h (v := xs 1) (vp_lit (by decide +kernel)) rfl dL_law_628 ?_
  refine r_vi (y := c) e1 ?_
  refine k_i X h [0] [1, 2] (wr := [(y, .inr (7, [.ref y_refused, .ref y_document, .int 0, .int 0, .ref y_variables, .int 0, .ref y_nodes, .ref y_node, .ref y_master, .ref y_isSet, .ref y_setMany, .ref y_setFrom, .ref y_setUsed, .ref y_setText, .ref y_atStop, .ref y_isFresh, .ref y_then, .ref y_choiceMany, .ref y_choiceFrom, .ref y_choiceLong, .ref y_choiceBytes, .int 0, .ref y_text, .int 0, .int 0, .int 0, .int 0, .ref y_open, .int 0, .ref y_shown, .int 0, .int 0, .ref y_nextNode, .ref y_endNode, .ref y_made, .ref y_beganAt, .ref y_ofNode, .ref y_isOwn, .int 0, .ref y_begin, .ref y_size, .ref y_holding, .int 0, .ref y_kept, .int 0])), (y_refused, .inl (g.2 1, 3, .inl (fun _ => 0)))]) rfl rfl rfl (by decide) 973 728835 (Nat.le_of_ble_eq_true rfl) (Nat.le_of_ble_eq_true rfl) (k_runV X h (As := [.int c]) (rest := []) (c6_told_lo l g H.size x tx lk pa nO dO c h1 h3) cw_L_101 [0] rfl rfl 0 kl6 rfl rfl rfl (Nat.le_of_ble_eq_true rfl) (Nat.le_of_ble_eq_true rfl) rfl hl.1 rfl (Nat.le_of_ble_eq_true rfl) dL_law_629 (Nat.le_of_ble_eq_true rfl) (Nat.le_of_ble_eq_true rfl)) (fun _ H locs h => ?_)
  have h : ST g (LA s) s [(y, .inr (7, [.ref y_refused, .ref y_document, .int 0, .int 0, .ref y_variables, .int 0, .ref y_nodes, .ref y_node, .ref y_master, .ref y_isSet, .ref y_setMany, .ref y_setFrom, .ref y_setUsed, .ref y_setText, .ref y_atStop, .ref y_isFresh, .ref y_then, .ref y_choiceMany, .ref y_choiceFrom, .ref y_choiceLong, .ref y_choiceBytes, .int 0, .ref y_text, .int 0, .int 0, .int 0, .int 0, .ref y_open, .int 0, .ref y_shown, .int 0, .int 0, .ref y_nextNode, .ref y_endNode, .ref y_made, .ref y_beganAt, .ref y_ofNode, .ref y_isOwn, .int 0, .ref y_begin, .ref y_size, .ref y_holding, .int 0, .ref y_kept, .int 0])), (y_refused, .inl (g.2 1, 3, .inl (fun _ => 0)))] H locs := h
  refine lv_aload_n hx hb dL_law_632 rfl (lv_at hl 1 rfl) ?_
  refine lv_aload_n hx hb dL_law_633 rfl (lv_at hl 3 rfl) ?_
  refine lv_iload_n hx hb dL_law_634 rfl (lv_at hl 0 rfl) ?_
  refine lv_iconst (v := 1) hx hb dL_law_635 (by decide) ?_
  refine lv_iadd hx hb dL_law_636 ?_
  refine r_vi (y := 1) (by decide) ?_
  refine r_sld X hX hbl h (v := xs 1) (vp_lit (by decide +kernel)) rfl dL_law_637 ?_
  refine r_vi (y := c) e1 ?_
  refine k_i X h [0, 1] [] (wr := []) rfl rfl rfl (by decide) 973 728835 (Nat.le_of_ble_eq_true rfl) (Nat.le_of_ble_eq_true rfl) (k_runV X h (As := [.int c]) (rest := [.int (-2)]) (c7_told_lo l g H.size y y_refused y_document y_variables y_nodes y_node y_master y_isSet y_setMany y_setFrom y_setUsed y_setText y_atStop y_isFresh y_then y_choiceMany y_choiceFrom y_choiceLong y_choiceBytes y_text y_open y_shown y_nextNode y_endNode y_made y_beganAt y_ofNode y_isOwn y_begin y_size y_holding y_kept c h1 h3) cw_L_104 [0, 1] rfl rfl 0 kl7 rfl rfl rfl (Nat.le_of_ble_eq_true rfl) (Nat.le_of_ble_eq_true rfl) rfl hl.1 rfl (Nat.le_of_ble_eq_true rfl) dL_law_638 (Nat.le_of_ble_eq_true rfl) (Nat.le_of_ble_eq_true rfl)) (fun _ H locs h => ?_)
  have h : ST g (LA s) s [] H locs := h
  refine lv_icmp_eq (tgt := 660) hx hb dL_law_641 (by decide) (fun c_1 => ?_) (fun c_1 => absurd (by decide) c_1)
  exact law_tail X hX hbl h (lv_sub hl [0, 3] rfl) (Nat.le_of_ble_eq_true rfl) (Nat.le_of_ble_eq_true rfl)

set_option maxHeartbeats 4000000 in
set_option maxRecDepth 100000 in
theorem lw_told_hi {nm : String} {g : GE} {pp : Program} {l : Launch} {ee : Env} {s : State} {m : MethodId} {bb : List Frame} {mm : Method} {cd : Code} {bs : Nat} {xs : Nat → Int32} {H : Heap} {locs : List Loc} {ls : Array Slot} (X : CX g pp s m mm cd #[Value.ref bs] cL_law 4 RL nm ret (LA s)) (hX : va_X bs 4 xs s s.heap) (hbl : bs < s.heap.size) {y x tx lk pa nO dO y_refused y_document y_variables y_nodes y_node y_master y_isSet y_setMany y_setFrom y_setUsed y_setText y_atStop y_isFresh y_then y_choiceMany y_choiceFrom y_choiceLong y_choiceBytes y_text y_open y_shown y_nextNode y_endNode y_made y_beganAt y_ofNode y_isOwn y_begin y_size y_holding y_kept : Nat} (h : ST g (LA s) s [(x, .inr (6, [.ref tx, .ref lk, .ref pa, .int 0, .ref nO, .ref dO, .int 0, .int 0, .int 0])), (y, .inr (7, [.ref y_refused, .ref y_document, .int 0, .int 0, .ref y_variables, .int 0, .ref y_nodes, .ref y_node, .ref y_master, .ref y_isSet, .ref y_setMany, .ref y_setFrom, .ref y_setUsed, .ref y_setText, .ref y_atStop, .ref y_isFresh, .ref y_then, .ref y_choiceMany, .ref y_choiceFrom, .ref y_choiceLong, .ref y_choiceBytes, .int 0, .ref y_text, .int 0, .int 0, .int 0, .int 0, .ref y_open, .int 0, .ref y_shown, .int 0, .int 0, .ref y_nextNode, .ref y_endNode, .ref y_made, .ref y_beganAt, .ref y_ofNode, .ref y_isOwn, .int 0, .ref y_begin, .ref y_size, .ref y_holding, .int 0, .ref y_kept, .int 0])), (y_refused, .inl (g.2 1, 3, .inl (fun _ => 0)))] H locs) (hl : lv_has ls 4 [(3, .int 0), (2, .ref y), (1, .ref x), (0, .ref bs)]) {c : Int32} (e1 : xs 1 = c) (h1 : ¬ c < 0) (h2 : 4 < c) (h3 : Int32.toInt c < 0 ∨ 4 < Int32.toInt c) : W pp l ee room_1 s m #[Value.ref bs] bb mm cd H locs 973 728835 (lw_Z bb #[Value.ref bs] s) (F0 m 623 ls []) := by
  have hx := X.1
  have hb := X.2.1
  refine lv_aload_n hx hb dL_law_623 rfl (lv_at hl 2 rfl) ?_
  refine lv_aload_n hx hb dL_law_624 rfl (lv_at hl 3 rfl) ?_
  refine lv_iload_n hx hb dL_law_625 rfl (lv_at hl 0 rfl) ?_
  refine lv_iconst (v := 1) hx hb dL_law_626 (by decide) ?_
  refine lv_iadd hx hb dL_law_627 ?_
  refine r_vi (y := 1) (by decide) ?_
  refine r_sld X hX hbl h (v := xs 1) (vp_lit (by decide +kernel)) rfl dL_law_628 ?_
  refine r_vi (y := c) e1 ?_
  refine k_i X h [0] [1, 2] (wr := [(y, .inr (7, [.ref y_refused, .ref y_document, .int 0, .int 0, .ref y_variables, .int 0, .ref y_nodes, .ref y_node, .ref y_master, .ref y_isSet, .ref y_setMany, .ref y_setFrom, .ref y_setUsed, .ref y_setText, .ref y_atStop, .ref y_isFresh, .ref y_then, .ref y_choiceMany, .ref y_choiceFrom, .ref y_choiceLong, .ref y_choiceBytes, .int 0, .ref y_text, .int 0, .int 0, .int 0, .int 0, .ref y_open, .int 0, .ref y_shown, .int 0, .int 0, .ref y_nextNode, .ref y_endNode, .ref y_made, .ref y_beganAt, .ref y_ofNode, .ref y_isOwn, .int 0, .ref y_begin, .ref y_size, .ref y_holding, .int 0, .ref y_kept, .int 0])), (y_refused, .inl (g.2 1, 3, .inl (fun _ => 0)))]) rfl rfl rfl (by decide) 973 728835 (Nat.le_of_ble_eq_true rfl) (Nat.le_of_ble_eq_true rfl) (k_runV X h (As := [.int c]) (rest := []) (c6_told_hi l g H.size x tx lk pa nO dO c h1 h2 h3) cw_L_101 [0] rfl rfl 0 kl6 rfl rfl rfl (Nat.le_of_ble_eq_true rfl) (Nat.le_of_ble_eq_true rfl) rfl hl.1 rfl (Nat.le_of_ble_eq_true rfl) dL_law_629 (Nat.le_of_ble_eq_true rfl) (Nat.le_of_ble_eq_true rfl)) (fun _ H locs h => ?_)
  have h : ST g (LA s) s [(y, .inr (7, [.ref y_refused, .ref y_document, .int 0, .int 0, .ref y_variables, .int 0, .ref y_nodes, .ref y_node, .ref y_master, .ref y_isSet, .ref y_setMany, .ref y_setFrom, .ref y_setUsed, .ref y_setText, .ref y_atStop, .ref y_isFresh, .ref y_then, .ref y_choiceMany, .ref y_choiceFrom, .ref y_choiceLong, .ref y_choiceBytes, .int 0, .ref y_text, .int 0, .int 0, .int 0, .int 0, .ref y_open, .int 0, .ref y_shown, .int 0, .int 0, .ref y_nextNode, .ref y_endNode, .ref y_made, .ref y_beganAt, .ref y_ofNode, .ref y_isOwn, .int 0, .ref y_begin, .ref y_size, .ref y_holding, .int 0, .ref y_kept, .int 0])), (y_refused, .inl (g.2 1, 3, .inl (fun _ => 0)))] H locs := h
  refine lv_aload_n hx hb dL_law_632 rfl (lv_at hl 1 rfl) ?_
  refine lv_aload_n hx hb dL_law_633 rfl (lv_at hl 3 rfl) ?_
  refine lv_iload_n hx hb dL_law_634 rfl (lv_at hl 0 rfl) ?_
  refine lv_iconst (v := 1) hx hb dL_law_635 (by decide) ?_
  refine lv_iadd hx hb dL_law_636 ?_
  refine r_vi (y := 1) (by decide) ?_
  refine r_sld X hX hbl h (v := xs 1) (vp_lit (by decide +kernel)) rfl dL_law_637 ?_
  refine r_vi (y := c) e1 ?_
  refine k_i X h [0, 1] [] (wr := []) rfl rfl rfl (by decide) 973 728835 (Nat.le_of_ble_eq_true rfl) (Nat.le_of_ble_eq_true rfl) (k_runV X h (As := [.int c]) (rest := [.int (-2)]) (c7_told_hi l g H.size y y_refused y_document y_variables y_nodes y_node y_master y_isSet y_setMany y_setFrom y_setUsed y_setText y_atStop y_isFresh y_then y_choiceMany y_choiceFrom y_choiceLong y_choiceBytes y_text y_open y_shown y_nextNode y_endNode y_made y_beganAt y_ofNode y_isOwn y_begin y_size y_holding y_kept c h1 h2 h3) cw_L_104 [0, 1] rfl rfl 0 kl7 rfl rfl rfl (Nat.le_of_ble_eq_true rfl) (Nat.le_of_ble_eq_true rfl) rfl hl.1 rfl (Nat.le_of_ble_eq_true rfl) dL_law_638 (Nat.le_of_ble_eq_true rfl) (Nat.le_of_ble_eq_true rfl)) (fun _ H locs h => ?_)
  have h : ST g (LA s) s [] H locs := h
  refine lv_icmp_eq (tgt := 660) hx hb dL_law_641 (by decide) (fun c_1 => ?_) (fun c_1 => absurd (by decide) c_1)
  exact law_tail X hX hbl h (lv_sub hl [0, 3] rfl) (Nat.le_of_ble_eq_true rfl) (Nat.le_of_ble_eq_true rfl)

set_option maxHeartbeats 4000000 in
set_option maxRecDepth 100000 in
theorem lw_digest {nm : String} {g : GE} {pp : Program} {l : Launch} {ee : Env} {s : State} {m : MethodId} {bb : List Frame} {mm : Method} {cd : Code} {bs : Nat} {xs : Nat → Int32} {H : Heap} {locs : List Loc} {ls : Array Slot} (X : CX g pp s m mm cd #[Value.ref bs] cL_law 4 RL nm ret (LA s)) (hX : va_X bs 4 xs s s.heap) (hbl : bs < s.heap.size) {y x tx lk pa nO dO txb np nv ns nsh nshb y_refused y_document y_variables y_nodes y_node y_master y_isSet y_setMany y_setFrom y_setUsed y_setText y_atStop y_isFresh y_then y_choiceMany y_choiceFrom y_choiceLong y_choiceBytes y_text y_open y_shown y_nextNode y_endNode y_made y_beganAt y_ofNode y_isOwn y_begin y_size y_holding y_kept : Nat} (h : ST g (LA s) s [(x, .inr (6, [.ref tx, .ref lk, .ref pa, .int 0, .ref nO, .ref dO, .int 0, .int 0, .int 0])), (tx, .inr (2, [.int 120, .ref txb, .int 0])), (nO, .inr (4, [.ref np, .int 0, .ref nv, .ref ns, .int 0, .ref nsh])), (nsh, .inr (2, [.int 241, .ref nshb, .int 0])), (y, .inr (7, [.ref y_refused, .ref y_document, .int 0, .int 0, .ref y_variables, .int 0, .ref y_nodes, .ref y_node, .ref y_master, .ref y_isSet, .ref y_setMany, .ref y_setFrom, .ref y_setUsed, .ref y_setText, .ref y_atStop, .ref y_isFresh, .ref y_then, .ref y_choiceMany, .ref y_choiceFrom, .ref y_choiceLong, .ref y_choiceBytes, .int 0, .ref y_text, .int 0, .int 0, .int 0, .int 0, .ref y_open, .int 0, .ref y_shown, .int 0, .int 0, .ref y_nextNode, .ref y_endNode, .ref y_made, .ref y_beganAt, .ref y_ofNode, .ref y_isOwn, .int 0, .ref y_begin, .ref y_size, .ref y_holding, .int 0, .ref y_kept, .int 0])), (y_refused, .inl (g.2 1, 3, .inl (fun _ => 0)))] H locs) (hl : lv_has ls 4 [(3, .int 0), (2, .ref y), (1, .ref x), (0, .ref bs)]) : W pp l ee room_1 s m #[Value.ref bs] bb mm cd H locs 973 728835 (lw_Z bb #[Value.ref bs] s) (F0 m 646 ls []) := by
  have hx := X.1
  have hb := X.2.1
  refine lv_aload_n hx hb dL_law_646 rfl (lv_at hl 2 rfl) ?_
  refine k_l X h [0, 1, 2, 3] [4, 5] (wr := [(y, .inr (7, [.ref y_refused, .ref y_document, .int 0, .int 0, .ref y_variables, .int 0, .ref y_nodes, .ref y_node, .ref y_master, .ref y_isSet, .ref y_setMany, .ref y_setFrom, .ref y_setUsed, .ref y_setText, .ref y_atStop, .ref y_isFresh, .ref y_then, .ref y_choiceMany, .ref y_choiceFrom, .ref y_choiceLong, .ref y_choiceBytes, .int 0, .ref y_text, .int 0, .int 0, .int 0, .int 0, .ref y_open, .int 0, .ref y_shown, .int 0, .int 0, .ref y_nextNode, .ref y_endNode, .ref y_made, .ref y_beganAt, .ref y_ofNode, .ref y_isOwn, .int 0, .ref y_begin, .ref y_size, .ref y_holding, .int 0, .ref y_kept, .int 0])), (y_refused, .inl (g.2 1, 3, .inl (fun _ => 0)))]) rfl rfl rfl (by decide) 973 728835 (Nat.le_of_ble_eq_true rfl) (Nat.le_of_ble_eq_true rfl) (k_runV X h (As := []) (rest := []) (c6_digest l g H.size x tx lk pa nO dO txb np nv ns nsh nshb) cw_L_105 [0, 1, 2, 3] rfl rfl 0 kl6 rfl rfl rfl (Nat.le_of_ble_eq_true rfl) (Nat.le_of_ble_eq_true rfl) rfl hl.1 rfl (Nat.le_of_ble_eq_true rfl) dL_law_647 (Nat.le_of_ble_eq_true rfl) (Nat.le_of_ble_eq_true rfl)) (fun _ H locs h => ?_)
  have h : ST g (LA s) s [(y, .inr (7, [.ref y_refused, .ref y_document, .int 0, .int 0, .ref y_variables, .int 0, .ref y_nodes, .ref y_node, .ref y_master, .ref y_isSet, .ref y_setMany, .ref y_setFrom, .ref y_setUsed, .ref y_setText, .ref y_atStop, .ref y_isFresh, .ref y_then, .ref y_choiceMany, .ref y_choiceFrom, .ref y_choiceLong, .ref y_choiceBytes, .int 0, .ref y_text, .int 0, .int 0, .int 0, .int 0, .ref y_open, .int 0, .ref y_shown, .int 0, .int 0, .ref y_nextNode, .ref y_endNode, .ref y_made, .ref y_beganAt, .ref y_ofNode, .ref y_isOwn, .int 0, .ref y_begin, .ref y_size, .ref y_holding, .int 0, .ref y_kept, .int 0])), (y_refused, .inl (g.2 1, 3, .inl (fun _ => 0)))] H locs := h
  refine lv_aload_n hx hb dL_law_650 rfl (lv_at hl 1 rfl) ?_
  refine k_l X h [0, 1] [] (wr := []) rfl rfl rfl (by decide) 973 728835 (Nat.le_of_ble_eq_true rfl) (Nat.le_of_ble_eq_true rfl) (k_runV X h (As := []) (rest := [.long (-7826380424851621839)]) (c7_digest l g H.size y y_refused y_document y_variables y_nodes y_node y_master y_isSet y_setMany y_setFrom y_setUsed y_setText y_atStop y_isFresh y_then y_choiceMany y_choiceFrom y_choiceLong y_choiceBytes y_text y_open y_shown y_nextNode y_endNode y_made y_beganAt y_ofNode y_isOwn y_begin y_size y_holding y_kept) cw_L_109 [0, 1] rfl rfl 0 kl7 rfl rfl rfl (Nat.le_of_ble_eq_true rfl) (Nat.le_of_ble_eq_true rfl) rfl hl.1 rfl (Nat.le_of_ble_eq_true rfl) dL_law_651 (Nat.le_of_ble_eq_true rfl) (Nat.le_of_ble_eq_true rfl)) (fun _ H locs h => ?_)
  have h : ST g (LA s) s [] H locs := h
  refine W.lcmp hx hb dL_law_654 ?_
  refine r_vi (y := 0) (by decide) ?_
  refine lv_if_eq (tgt := 660) hx hb dL_law_655 (by decide) (fun c_1 => ?_) (fun c_1 => absurd (by decide) c_1)
  exact law_tail X hX hbl h (lv_sub hl [0, 3] rfl) (Nat.le_of_ble_eq_true rfl) (Nat.le_of_ble_eq_true rfl)
