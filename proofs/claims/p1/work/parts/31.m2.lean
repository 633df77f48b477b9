set_option maxHeartbeats 4000000 in
set_option maxRecDepth 100000 in
/-- writes(8), no session -/
theorem c7_writes (l : Launch) (g : GE) (sz : Nat) (y : Nat) (y_refused : Nat) (y_document : Nat) (y_variables : Nat) (y_nodes : Nat) (y_node : Nat) (y_master : Nat) (y_isSet : Nat) (y_setMany : Nat) (y_setFrom : Nat) (y_setUsed : Nat) (y_setText : Nat) (y_atStop : Nat) (y_isFresh : Nat) (y_then : Nat) (y_choiceMany : Nat) (y_choiceFrom : Nat) (y_choiceLong : Nat) (y_choiceBytes : Nat) (y_text : Nat) (y_open : Nat) (y_shown : Nat) (y_nextNode : Nat) (y_endNode : Nat) (y_made : Nat) (y_beganAt : Nat) (y_ofNode : Nat) (y_isOwn : Nat) (y_begin : Nat) (y_size : Nat) (y_holding : Nat) (y_kept : Nat) (i_length : Int32) (i_readAt : Int32) (i_isFaulty : Int32) (i_occurrences : Int32) (i_deep : Int32) (i_many : Int32) (i_isTooMuch : Int32) (i_levels : Int32) (i_states : Int32) (i_keptAt : Int32) (f : Nat → Int32) : Met l yX7_writes (.code yX7_writes cX7_writes 3 none :: WL) { frames := 1, cells := 0, slots := 0, locals := 21 } (PR g [.ref y, .int 8] [(y, .inr (7, [.ref y_refused, .ref y_document, .int 0, .int 0, .ref y_variables, .int 0, .ref y_nodes, .ref y_node, .ref y_master, .ref y_isSet, .ref y_setMany, .ref y_setFrom, .ref y_setUsed, .ref y_setText, .ref y_atStop, .ref y_isFresh, .ref y_then, .ref y_choiceMany, .ref y_choiceFrom, .ref y_choiceLong, .ref y_choiceBytes, .int 0, .ref y_text, .int i_length, .int i_readAt, .int i_isFaulty, .int i_occurrences, .ref y_open, .int i_deep, .ref y_shown, .int i_many, .int i_isTooMuch, .ref y_nextNode, .ref y_endNode, .ref y_made, .ref y_beganAt, .ref y_ofNode, .ref y_isOwn, .int i_levels, .ref y_begin, .ref y_size, .ref y_holding, .int i_states, .ref y_kept, .int i_keptAt])), (y_kept, .inl (g.2 1, 630000, .inl f)), (y_document, .inl (g.2 1, 240, .inl (fun _ => 0))), (y_variables, .inl (g.2 1, 52, .inl (fun _ => 0)))] sz) (QV g [(y, .inr (7, [.ref y_refused, .ref y_document, .int 0, .int 0, .ref y_variables, .int 0, .ref y_nodes, .ref y_node, .ref y_master, .ref y_isSet, .ref y_setMany, .ref y_setFrom, .ref y_setUsed, .ref y_setText, .ref y_atStop, .ref y_isFresh, .ref y_then, .ref y_choiceMany, .ref y_choiceFrom, .ref y_choiceLong, .ref y_choiceBytes, .int 0, .ref y_text, .int i_length, .int i_readAt, .int i_isFaulty, .int i_occurrences, .ref y_open, .int i_deep, .ref y_shown, .int i_many, .int i_isTooMuch, .ref y_nextNode, .ref y_endNode, .ref y_made, .ref y_beganAt, .ref y_ofNode, .ref y_isOwn, .int i_levels, .ref y_begin, .ref y_size, .ref y_holding, .int i_states, .ref y_kept, .int i_keptAt])), (y_kept, .inl (g.2 1, 630000, .inl f)), (y_document, .inl (g.2 1, 240, .inl (fun _ => 0))), (y_variables, .inl (g.2 1, 52, .inl (fun _ => 0)))] sz (fun u : (Nat → Int32) => [(y, .inr (7, [.ref y_refused, .ref y_document, .int 0, .int 0, .ref y_variables, .int 0, .ref y_nodes, .ref y_node, .ref y_master, .ref y_isSet, .ref y_setMany, .ref y_setFrom, .ref y_setUsed, .ref y_setText, .ref y_atStop, .ref y_isFresh, .ref y_then, .ref y_choiceMany, .ref y_choiceFrom, .ref y_choiceLong, .ref y_choiceBytes, .int 0, .ref y_text, .int i_length, .int i_readAt, .int i_isFaulty, .int i_occurrences, .ref y_open, .int i_deep, .ref y_shown, .int i_many, .int i_isTooMuch, .ref y_nextNode, .ref y_endNode, .ref y_made, .ref y_beganAt, .ref y_ofNode, .ref y_isOwn, .int i_levels, .ref y_begin, .ref y_size, .ref y_holding, .int i_states, .ref y_kept, .int 560297])), (y_kept, .inl (g.2 1, 630000, .inl (upd u 560000 297))), (y_document, .inl (g.2 1, 240, .inl (fun _ => 0))), (y_variables, .inl (g.2 1, 52, .inl (fun _ => 0)))])) 0 0 (va_A [(y, .inr (7, [.ref y_refused, .ref y_document, .int 0, .int 0, .ref y_variables, .int 0, .ref y_nodes, .ref y_node, .ref y_master, .ref y_isSet, .ref y_setMany, .ref y_setFrom, .ref y_setUsed, .ref y_setText, .ref y_atStop, .ref y_isFresh, .ref y_then, .ref y_choiceMany, .ref y_choiceFrom, .ref y_choiceLong, .ref y_choiceBytes, .int 0, .ref y_text, .int i_length, .int i_readAt, .int i_isFaulty, .int i_occurrences, .ref y_open, .int i_deep, .ref y_shown, .int i_many, .int i_isTooMuch, .ref y_nextNode, .ref y_endNode, .ref y_made, .ref y_beganAt, .ref y_ofNode, .ref y_isOwn, .int i_levels, .ref y_begin, .ref y_size, .ref y_holding, .int i_states, .ref y_kept, .int i_keptAt])), (y_kept, .inl (g.2 1, 630000, .inl f)), (y_document, .inl (g.2 1, 240, .inl (fun _ => 0))), (y_variables, .inl (g.2 1, 52, .inl (fun _ => 0)))] sz) := by
  refine k_start (by decide) (Nat.le_of_ble_eq_true rfl) ?_
  intro pp ee s m bb mm cd A H locs hAe X h ls hl
  have X : CX g pp s m mm cd _ cX7_writes 3 RX7 "writes" none A := X
  have hx := X.1
  have hb := X.2.1
  have hl : lv_has ls 3 [(0, .ref y), (1, .int 8)] := hl
  refine lv_aload_n hx hb dX7_writes_0 rfl (lv_at hl 0 rfl) ?_
  refine r_ldcw X (v := 70000) lk_X7_278 dX7_writes_1 ?_
  refine lv_iload_n hx hb dX7_writes_4 rfl (lv_at hl 1 rfl) ?_
  refine lv_imul hx hb dX7_writes_5 ?_
  refine r_vi (y := 560000) (by decide) ?_
  refine r_put X h kl7 0 44 (v := .int 560000) rfl (by decide) lk_X7_269 rfl rfl rfl (Nat.le_of_ble_eq_true rfl) dX7_writes_6 (fun H locs h => ?_)
  have h : ST g A s [(y, .inr (7, [.ref y_refused, .ref y_document, .int 0, .int 0, .ref y_variables, .int 0, .ref y_nodes, .ref y_node, .ref y_master, .ref y_isSet, .ref y_setMany, .ref y_setFrom, .ref y_setUsed, .ref y_setText, .ref y_atStop, .ref y_isFresh, .ref y_then, .ref y_choiceMany, .ref y_choiceFrom, .ref y_choiceLong, .ref y_choiceBytes, .int 0, .ref y_text, .int i_length, .int i_readAt, .int i_isFaulty, .int i_occurrences, .ref y_open, .int i_deep, .ref y_shown, .int i_many, .int i_isTooMuch, .ref y_nextNode, .ref y_endNode, .ref y_made, .ref y_beganAt, .ref y_ofNode, .ref y_isOwn, .int i_levels, .ref y_begin, .ref y_size, .ref y_holding, .int i_states, .ref y_kept, .int 560000])), (y_kept, .inl (g.2 1, 630000, .inl f)), (y_document, .inl (g.2 1, 240, .inl (fun _ => 0))), (y_variables, .inl (g.2 1, 52, .inl (fun _ => 0)))] H locs := h
  refine lv_aload_n hx hb dX7_writes_9 rfl (lv_at hl 0 rfl) ?_
  refine lv_iconst (v := 0) hx hb dX7_writes_10 (by decide) ?_
  refine k_v X h [0, 1] [2, 3] (wr := [(y_document, .inl (g.2 1, 240, .inl (fun _ => 0))), (y_variables, .inl (g.2 1, 52, .inl (fun _ => 0)))]) rfl rfl rfl (by decide) 0 0 (Nat.le_of_ble_eq_true rfl) (Nat.le_of_ble_eq_true rfl) (k_runV X h (As := [.int 0]) (rest := []) (c7_put l g H.size y y_refused y_document y_variables y_nodes y_node y_master y_isSet y_setMany y_setFrom y_setUsed y_setText y_atStop y_isFresh y_then y_choiceMany y_choiceFrom y_choiceLong y_choiceBytes y_text y_open y_shown y_nextNode y_endNode y_made y_beganAt y_ofNode y_isOwn y_begin y_size y_holding y_kept 0 0 0 0 i_length i_readAt i_isFaulty i_occurrences i_deep i_many i_isTooMuch i_levels i_states 560000 0 f (vp_lit (by decide +kernel))) cw_X7_272 [0, 1] rfl rfl 0 kl7 rfl rfl rfl (Nat.le_of_ble_eq_true rfl) (Nat.le_of_ble_eq_true rfl) rfl hl.1 rfl (Nat.le_of_ble_eq_true rfl) dX7_writes_11 (Nat.le_of_ble_eq_true rfl) (Nat.le_of_ble_eq_true rfl)) (fun u9 H locs h => ?_)
  obtain ⟨f_1, rfl⟩ : ∃ z, z = u9 := ⟨_, rfl⟩
  have h : ST g A s [(y_document, .inl (g.2 1, 240, .inl (fun _ => 0))), (y_variables, .inl (g.2 1, 52, .inl (fun _ => 0))), (y, .inr (7, [.ref y_refused, .ref y_document, .int 0, .int 0, .ref y_variables, .int 0, .ref y_nodes, .ref y_node, .ref y_master, .ref y_isSet, .ref y_setMany, .ref y_setFrom, .ref y_setUsed, .ref y_setText, .ref y_atStop, .ref y_isFresh, .ref y_then, .ref y_choiceMany, .ref y_choiceFrom, .ref y_choiceLong, .ref y_choiceBytes, .int 0, .ref y_text, .int i_length, .int i_readAt, .int i_isFaulty, .int i_occurrences, .ref y_open, .int i_deep, .ref y_shown, .int i_many, .int i_isTooMuch, .ref y_nextNode, .ref y_endNode, .ref y_made, .ref y_beganAt, .ref y_ofNode, .ref y_isOwn, .int i_levels, .ref y_begin, .ref y_size, .ref y_holding, .int i_states, .ref y_kept, .int 560001])), (y_kept, .inl (g.2 1, 630000, .inl f_1))] H locs := h
  refine lv_aload_n hx hb dX7_writes_14 rfl (lv_at hl 0 rfl) ?_
  refine lv_aload_n hx hb dX7_writes_15 rfl (lv_at hl 0 rfl) ?_
  refine r_get X h kl7 2 2 rfl (by decide) lk_X7_279 rfl dX7_writes_16 ?_
  refine k_v X h [2, 3] [0, 1] (wr := [(y_document, .inl (g.2 1, 240, .inl (fun _ => 0))), (y_variables, .inl (g.2 1, 52, .inl (fun _ => 0)))]) rfl rfl rfl (by decide) 0 0 (Nat.le_of_ble_eq_true rfl) (Nat.le_of_ble_eq_true rfl) (k_runV X h (As := [.int 0]) (rest := []) (c7_put l g H.size y y_refused y_document y_variables y_nodes y_node y_master y_isSet y_setMany y_setFrom y_setUsed y_setText y_atStop y_isFresh y_then y_choiceMany y_choiceFrom y_choiceLong y_choiceBytes y_text y_open y_shown y_nextNode y_endNode y_made y_beganAt y_ofNode y_isOwn y_begin y_size y_holding y_kept 0 0 0 0 i_length i_readAt i_isFaulty i_occurrences i_deep i_many i_isTooMuch i_levels i_states 560001 0 f_1 (vp_lit (by decide +kernel))) cw_X7_272 [2, 3] rfl rfl 2 kl7 rfl rfl rfl (Nat.le_of_ble_eq_true rfl) (Nat.le_of_ble_eq_true rfl) rfl hl.1 rfl (Nat.le_of_ble_eq_true rfl) dX7_writes_19 (Nat.le_of_ble_eq_true rfl) (Nat.le_of_ble_eq_true rfl)) (fun u9 H locs h => ?_)
  obtain ⟨f_2, rfl⟩ : ∃ z, z = u9 := ⟨_, rfl⟩
  have h : ST g A s [(y_document, .inl (g.2 1, 240, .inl (fun _ => 0))), (y_variables, .inl (g.2 1, 52, .inl (fun _ => 0))), (y, .inr (7, [.ref y_refused, .ref y_document, .int 0, .int 0, .ref y_variables, .int 0, .ref y_nodes, .ref y_node, .ref y_master, .ref y_isSet, .ref y_setMany, .ref y_setFrom, .ref y_setUsed, .ref y_setText, .ref y_atStop, .ref y_isFresh, .ref y_then, .ref y_choiceMany, .ref y_choiceFrom, .ref y_choiceLong, .ref y_choiceBytes, .int 0, .ref y_text, .int i_length, .int i_readAt, .int i_isFaulty, .int i_occurrences, .ref y_open, .int i_deep, .ref y_shown, .int i_many, .int i_isTooMuch, .ref y_nextNode, .ref y_endNode, .ref y_made, .ref y_beganAt, .ref y_ofNode, .ref y_isOwn, .int i_levels, .ref y_begin, .ref y_size, .ref y_holding, .int i_states, .ref y_kept, .int 560002])), (y_kept, .inl (g.2 1, 630000, .inl f_2))] H locs := h
  refine lv_aload_n hx hb dX7_writes_22 rfl (lv_at hl 0 rfl) ?_
  refine lv_aload_n hx hb dX7_writes_23 rfl (lv_at hl 0 rfl) ?_
  refine r_get X h kl7 2 3 rfl (by decide) lk_X7_282 rfl dX7_writes_24 ?_
  refine k_v X h [2, 3] [0, 1] (wr := [(y_document, .inl (g.2 1, 240, .inl (fun _ => 0))), (y_variables, .inl (g.2 1, 52, .inl (fun _ => 0)))]) rfl rfl rfl (by decide) 0 0 (Nat.le_of_ble_eq_true rfl) (Nat.le_of_ble_eq_true rfl) (k_runV X h (As := [.int 0]) (rest := []) (c7_put l g H.size y y_refused y_document y_variables y_nodes y_node y_master y_isSet y_setMany y_setFrom y_setUsed y_setText y_atStop y_isFresh y_then y_choiceMany y_choiceFrom y_choiceLong y_choiceBytes y_text y_open y_shown y_nextNode y_endNode y_made y_beganAt y_ofNode y_isOwn y_begin y_size y_holding y_kept 0 0 0 0 i_length i_readAt i_isFaulty i_occurrences i_deep i_many i_isTooMuch i_levels i_states 560002 0 f_2 (vp_lit (by decide +kernel))) cw_X7_272 [2, 3] rfl rfl 2 kl7 rfl rfl rfl (Nat.le_of_ble_eq_true rfl) (Nat.le_of_ble_eq_true rfl) rfl hl.1 rfl (Nat.le_of_ble_eq_true rfl) dX7_writes_27 (Nat.le_of_ble_eq_true rfl) (Nat.le_of_ble_eq_true rfl)) (fun u9 H locs h => ?_)
  obtain ⟨f_3, rfl⟩ : ∃ z, z = u9 := ⟨_, rfl⟩
  have h : ST g A s [(y_document, .inl (g.2 1, 240, .inl (fun _ => 0))), (y_variables, .inl (g.2 1, 52, .inl (fun _ => 0))), (y, .inr (7, [.ref y_refused, .ref y_document, .int 0, .int 0, .ref y_variables, .int 0, .ref y_nodes, .ref y_node, .ref y_master, .ref y_isSet, .ref y_setMany, .ref y_setFrom, .ref y_setUsed, .ref y_setText, .ref y_atStop, .ref y_isFresh, .ref y_then, .ref y_choiceMany, .ref y_choiceFrom, .ref y_choiceLong, .ref y_choiceBytes, .int 0, .ref y_text, .int i_length, .int i_readAt, .int i_isFaulty, .int i_occurrences, .ref y_open, .int i_deep, .ref y_shown, .int i_many, .int i_isTooMuch, .ref y_nextNode, .ref y_endNode, .ref y_made, .ref y_beganAt, .ref y_ofNode, .ref y_isOwn, .int i_levels, .ref y_begin, .ref y_size, .ref y_holding, .int i_states, .ref y_kept, .int 560003])), (y_kept, .inl (g.2 1, 630000, .inl f_3))] H locs := h
  refine lv_aload_n hx hb dX7_writes_30 rfl (lv_at hl 0 rfl) ?_
  refine lv_aload_n hx hb dX7_writes_31 rfl (lv_at hl 0 rfl) ?_
  refine r_get X h kl7 2 21 rfl (by decide) lk_X7_285 rfl dX7_writes_32 ?_
  refine k_v X h [2, 3] [0, 1] (wr := [(y_document, .inl (g.2 1, 240, .inl (fun _ => 0))), (y_variables, .inl (g.2 1, 52, .inl (fun _ => 0)))]) rfl rfl rfl (by decide) 0 0 (Nat.le_of_ble_eq_true rfl) (Nat.le_of_ble_eq_true rfl) (k_runV X h (As := [.int 0]) (rest := []) (c7_put l g H.size y y_refused y_document y_variables y_nodes y_node y_master y_isSet y_setMany y_setFrom y_setUsed y_setText y_atStop y_isFresh y_then y_choiceMany y_choiceFrom y_choiceLong y_choiceBytes y_text y_open y_shown y_nextNode y_endNode y_made y_beganAt y_ofNode y_isOwn y_begin y_size y_holding y_kept 0 0 0 0 i_length i_readAt i_isFaulty i_occurrences i_deep i_many i_isTooMuch i_levels i_states 560003 0 f_3 (vp_lit (by decide +kernel))) cw_X7_272 [2, 3] rfl rfl 2 kl7 rfl rfl rfl (Nat.le_of_ble_eq_true rfl) (Nat.le_of_ble_eq_true rfl) rfl hl.1 rfl (Nat.le_of_ble_eq_true rfl) dX7_writes_35 (Nat.le_of_ble_eq_true rfl) (Nat.le_of_ble_eq_true rfl)) (fun u9 H locs h => ?_)
  obtain ⟨f_4, rfl⟩ : ∃ z, z = u9 := ⟨_, rfl⟩
  have h : ST g A s [(y_document, .inl (g.2 1, 240, .inl (fun _ => 0))), (y_variables, .inl (g.2 1, 52, .inl (fun _ => 0))), (y, .inr (7, [.ref y_refused, .ref y_document, .int 0, .int 0, .ref y_variables, .int 0, .ref y_nodes, .ref y_node, .ref y_master, .ref y_isSet, .ref y_setMany, .ref y_setFrom, .ref y_setUsed, .ref y_setText, .ref y_atStop, .ref y_isFresh, .ref y_then, .ref y_choiceMany, .ref y_choiceFrom, .ref y_choiceLong, .ref y_choiceBytes, .int 0, .ref y_text, .int i_length, .int i_readAt, .int i_isFaulty, .int i_occurrences, .ref y_open, .int i_deep, .ref y_shown, .int i_many, .int i_isTooMuch, .ref y_nextNode, .ref y_endNode, .ref y_made, .ref y_beganAt, .ref y_ofNode, .ref y_isOwn, .int i_levels, .ref y_begin, .ref y_size, .ref y_holding, .int i_states, .ref y_kept, .int 560004])), (y_kept, .inl (g.2 1, 630000, .inl f_4))] H locs := h
  refine lv_aload_n hx hb dX7_writes_38 rfl (lv_at hl 0 rfl) ?_
  refine lv_aload_n hx hb dX7_writes_39 rfl (lv_at hl 0 rfl) ?_
  refine r_get X h kl7 2 5 rfl (by decide) lk_X7_257 rfl dX7_writes_40 ?_
  refine k_v X h [2, 3] [0, 1] (wr := [(y_document, .inl (g.2 1, 240, .inl (fun _ => 0))), (y_variables, .inl (g.2 1, 52, .inl (fun _ => 0)))]) rfl rfl rfl (by decide) 0 0 (Nat.le_of_ble_eq_true rfl) (Nat.le_of_ble_eq_true rfl) (k_runV X h (As := [.int 0]) (rest := []) (c7_put l g H.size y y_refused y_document y_variables y_nodes y_node y_master y_isSet y_setMany y_setFrom y_setUsed y_setText y_atStop y_isFresh y_then y_choiceMany y_choiceFrom y_choiceLong y_choiceBytes y_text y_open y_shown y_nextNode y_endNode y_made y_beganAt y_ofNode y_isOwn y_begin y_size y_holding y_kept 0 0 0 0 i_length i_readAt i_isFaulty i_occurrences i_deep i_many i_isTooMuch i_levels i_states 560004 0 f_4 (vp_lit (by decide +kernel))) cw_X7_272 [2, 3] rfl rfl 2 kl7 rfl rfl rfl (Nat.le_of_ble_eq_true rfl) (Nat.le_of_ble_eq_true rfl) rfl hl.1 rfl (Nat.le_of_ble_eq_true rfl) dX7_writes_43 (Nat.le_of_ble_eq_true rfl) (Nat.le_of_ble_eq_true rfl)) (fun u9 H locs h => ?_)
  obtain ⟨f_5, rfl⟩ : ∃ z, z = u9 := ⟨_, rfl⟩
  have h : ST g A s [(y_document, .inl (g.2 1, 240, .inl (fun _ => 0))), (y_variables, .inl (g.2 1, 52, .inl (fun _ => 0))), (y, .inr (7, [.ref y_refused, .ref y_document, .int 0, .int 0, .ref y_variables, .int 0, .ref y_nodes, .ref y_node, .ref y_master, .ref y_isSet, .ref y_setMany, .ref y_setFrom, .ref y_setUsed, .ref y_setText, .ref y_atStop, .ref y_isFresh, .ref y_then, .ref y_choiceMany, .ref y_choiceFrom, .ref y_choiceLong, .ref y_choiceBytes, .int 0, .ref y_text, .int i_length, .int i_readAt, .int i_isFaulty, .int i_occurrences, .ref y_open, .int i_deep, .ref y_shown, .int i_many, .int i_isTooMuch, .ref y_nextNode, .ref y_endNode, .ref y_made, .ref y_beganAt, .ref y_ofNode, .ref y_isOwn, .int i_levels, .ref y_begin, .ref y_size, .ref y_holding, .int i_states, .ref y_kept, .int 560005])), (y_kept, .inl (g.2 1, 630000, .inl f_5))] H locs := h
  refine lv_iconst (v := 0) hx hb dX7_writes_46 (by decide) ?_
  refine lv_istore_n (lv' := [(2, .int 0), (0, .ref y), (1, .int 8)]) hx hb dX7_writes_47 rfl hl (by decide) rfl (fun ls hl => ?_)
  refine k_loop 240 (f0 := f_5) (fun i fk => [(y_document, .inl (g.2 1, 240, .inl (fun _ => 0))), (y_variables, .inl (g.2 1, 52, .inl (fun _ => 0))), (y, .inr (7, [.ref y_refused, .ref y_document, .int 0, .int 0, .ref y_variables, .int 0, .ref y_nodes, .ref y_node, .ref y_master, .ref y_isSet, .ref y_setMany, .ref y_setFrom, .ref y_setUsed, .ref y_setText, .ref y_atStop, .ref y_isFresh, .ref y_then, .ref y_choiceMany, .ref y_choiceFrom, .ref y_choiceLong, .ref y_choiceBytes, .int 0, .ref y_text, .int i_length, .int i_readAt, .int i_isFaulty, .int i_occurrences, .ref y_open, .int i_deep, .ref y_shown, .int i_many, .int i_isTooMuch, .ref y_nextNode, .ref y_endNode, .ref y_made, .ref y_beganAt, .ref y_ofNode, .ref y_isOwn, .int i_levels, .ref y_begin, .ref y_size, .ref y_holding, .int i_states, .ref y_kept, .int (nI (560005 + i))])), (y_kept, .inl (g.2 1, 630000, .inl fk))]) (fun i => [(2, .int (nI i)), (0, .ref y), (1, .int 8)]) h hl (fun i hi ih fk H locs ls h hl => ?_) (fun fk H locs ls h hl => ?_)
  · have h : ST g A s [(y_document, .inl (g.2 1, 240, .inl (fun _ => 0))), (y_variables, .inl (g.2 1, 52, .inl (fun _ => 0))), (y, .inr (7, [.ref y_refused, .ref y_document, .int 0, .int 0, .ref y_variables, .int 0, .ref y_nodes, .ref y_node, .ref y_master, .ref y_isSet, .ref y_setMany, .ref y_setFrom, .ref y_setUsed, .ref y_setText, .ref y_atStop, .ref y_isFresh, .ref y_then, .ref y_choiceMany, .ref y_choiceFrom, .ref y_choiceLong, .ref y_choiceBytes, .int 0, .ref y_text, .int i_length, .int i_readAt, .int i_isFaulty, .int i_occurrences, .ref y_open, .int i_deep, .ref y_shown, .int i_many, .int i_isTooMuch, .ref y_nextNode, .ref y_endNode, .ref y_made, .ref y_beganAt, .ref y_ofNode, .ref y_isOwn, .int i_levels, .ref y_begin, .ref y_size, .ref y_holding, .int i_states, .ref y_kept, .int (nI (560005 + i))])), (y_kept, .inl (g.2 1, 630000, .inl fk))] H locs := h
    have hl : lv_has ls 3 [(2, .int (nI i)), (0, .ref y), (1, .int 8)] := hl
    refine lv_iload_n hx hb dX7_writes_48 rfl (lv_at hl 0 rfl) ?_
    refine lv_sipush (v := 240) hx hb dX7_writes_49 (by decide) ?_
    refine lv_icmp_ge (tgt := 71) hx hb dX7_writes_52 (by decide) (fun c_6 => absurd c_6 (nI_ge (b := 240) hi (by decide))) (fun c_6 => ?_)
    refine lv_aload_n hx hb dX7_writes_55 rfl (lv_at hl 1 rfl) ?_
    refine lv_aload_n hx hb dX7_writes_56 rfl (lv_at hl 1 rfl) ?_
    refine r_get X h kl7 2 1 rfl (by decide) lk_X7_13 rfl dX7_writes_57 ?_
    refine lv_iload_n hx hb dX7_writes_60 rfl (lv_at hl 0 rfl) ?_
    refine r_iald X h 0 (v := 0) rfl (vp_in_nI hi (by decide)) rfl dX7_writes_61 ?_
    refine k_v X h [2, 3] [0, 1] (wr := [(y_document, .inl (g.2 1, 240, .inl (fun _ => 0))), (y_variables, .inl (g.2 1, 52, .inl (fun _ => 0)))]) rfl rfl rfl (by decide) 0 0 (Nat.le_of_ble_eq_true rfl) (Nat.le_of_ble_eq_true rfl) (k_runV X h (As := [.int 0]) (rest := []) (c7_put l g H.size y y_refused y_document y_variables y_nodes y_node y_master y_isSet y_setMany y_setFrom y_setUsed y_setText y_atStop y_isFresh y_then y_choiceMany y_choiceFrom y_choiceLong y_choiceBytes y_text y_open y_shown y_nextNode y_endNode y_made y_beganAt y_ofNode y_isOwn y_begin y_size y_holding y_kept 0 0 0 0 i_length i_readAt i_isFaulty i_occurrences i_deep i_many i_isTooMuch i_levels i_states ((nI (560005 + i))) 0 fk (vp_in_nI (by omega) (by decide))) cw_X7_272 [2, 3] rfl rfl 2 kl7 rfl rfl rfl (Nat.le_of_ble_eq_true rfl) (Nat.le_of_ble_eq_true rfl) rfl hl.1 rfl (Nat.le_of_ble_eq_true rfl) dX7_writes_62 (Nat.le_of_ble_eq_true rfl) (Nat.le_of_ble_eq_true rfl)) (fun u9 H locs h => ?_)
    obtain ⟨f_7, rfl⟩ : ∃ z, z = u9 := ⟨_, rfl⟩
    have h : ST g A s [(y_document, .inl (g.2 1, 240, .inl (fun _ => 0))), (y_variables, .inl (g.2 1, 52, .inl (fun _ => 0))), (y, .inr (7, [.ref y_refused, .ref y_document, .int 0, .int 0, .ref y_variables, .int 0, .ref y_nodes, .ref y_node, .ref y_master, .ref y_isSet, .ref y_setMany, .ref y_setFrom, .ref y_setUsed, .ref y_setText, .ref y_atStop, .ref y_isFresh, .ref y_then, .ref y_choiceMany, .ref y_choiceFrom, .ref y_choiceLong, .ref y_choiceBytes, .int 0, .ref y_text, .int i_length, .int i_readAt, .int i_isFaulty, .int i_occurrences, .ref y_open, .int i_deep, .ref y_shown, .int i_many, .int i_isTooMuch, .ref y_nextNode, .ref y_endNode, .ref y_made, .ref y_beganAt, .ref y_ofNode, .ref y_isOwn, .int i_levels, .ref y_begin, .ref y_size, .ref y_holding, .int i_states, .ref y_kept, .int ((nI (560005 + i)) + 1)])), (y_kept, .inl (g.2 1, 630000, .inl f_7))] H locs := h
    refine lv_iinc (v := (nI (i + 1))) (lv' := [(2, .int (nI (i + 1))), (0, .ref y), (1, .int 8)]) hx hb dX7_writes_65 hl (k := 0) rfl (nI_1 i) (by decide) rfl (fun ls hl => ?_)
    refine lv_goto (tgt := 48) hx hb dX7_writes_68 (by decide) ?_
    rw [nI_1] at h
    exact ih _ _ _ _ (h.sub [0, 1, 2, 3] rfl rfl) (lv_sub hl [0, 1, 2] rfl)
  obtain ⟨f_8, rfl⟩ : ∃ z, z = fk := ⟨_, rfl⟩
  have h : ST g A s [(y_document, .inl (g.2 1, 240, .inl (fun _ => 0))), (y_variables, .inl (g.2 1, 52, .inl (fun _ => 0))), (y, .inr (7, [.ref y_refused, .ref y_document, .int 0, .int 0, .ref y_variables, .int 0, .ref y_nodes, .ref y_node, .ref y_master, .ref y_isSet, .ref y_setMany, .ref y_setFrom, .ref y_setUsed, .ref y_setText, .ref y_atStop, .ref y_isFresh, .ref y_then, .ref y_choiceMany, .ref y_choiceFrom, .ref y_choiceLong, .ref y_choiceBytes, .int 0, .ref y_text, .int i_length, .int i_readAt, .int i_isFaulty, .int i_occurrences, .ref y_open, .int i_deep, .ref y_shown, .int i_many, .int i_isTooMuch, .ref y_nextNode, .ref y_endNode, .ref y_made, .ref y_beganAt, .ref y_ofNode, .ref y_isOwn, .int i_levels, .ref y_begin, .ref y_size, .ref y_holding, .int i_states, .ref y_kept, .int 560245])), (y_kept, .inl (g.2 1, 630000, .inl f_8))] H locs := h
  have hl : lv_has ls 3 [(2, .int 240), (0, .ref y), (1, .int 8)] := hl
  refine lv_iload_n hx hb dX7_writes_48 rfl (lv_at hl 0 rfl) ?_
  refine lv_sipush (v := 240) hx hb dX7_writes_49 (by decide) ?_
  refine lv_icmp_ge (tgt := 71) hx hb dX7_writes_52 (by decide) (fun c_9 => ?_) (fun c_9 => absurd (by decide) c_9)
  refine lv_iconst (v := 0) hx hb dX7_writes_71 (by decide) ?_
  refine lv_istore_n (lv' := [(2, .int 0), (0, .ref y), (1, .int 8)]) hx hb dX7_writes_72 rfl hl (by decide) rfl (fun ls hl => ?_)
  refine k_loop 52 (f0 := f_8) (fun i fk => [(y_document, .inl (g.2 1, 240, .inl (fun _ => 0))), (y_variables, .inl (g.2 1, 52, .inl (fun _ => 0))), (y, .inr (7, [.ref y_refused, .ref y_document, .int 0, .int 0, .ref y_variables, .int 0, .ref y_nodes, .ref y_node, .ref y_master, .ref y_isSet, .ref y_setMany, .ref y_setFrom, .ref y_setUsed, .ref y_setText, .ref y_atStop, .ref y_isFresh, .ref y_then, .ref y_choiceMany, .ref y_choiceFrom, .ref y_choiceLong, .ref y_choiceBytes, .int 0, .ref y_text, .int i_length, .int i_readAt, .int i_isFaulty, .int i_occurrences, .ref y_open, .int i_deep, .ref y_shown, .int i_many, .int i_isTooMuch, .ref y_nextNode, .ref y_endNode, .ref y_made, .ref y_beganAt, .ref y_ofNode, .ref y_isOwn, .int i_levels, .ref y_begin, .ref y_size, .ref y_holding, .int i_states, .ref y_kept, .int (nI (560245 + i))])), (y_kept, .inl (g.2 1, 630000, .inl fk))]) (fun i => [(2, .int (nI i)), (0, .ref y), (1, .int 8)]) h hl (fun i hi ih fk H locs ls h hl => ?_) (fun fk H locs ls h hl => ?_)
  · have h : ST g A s [(y_document, .inl (g.2 1, 240, .inl (fun _ => 0))), (y_variables, .inl (g.2 1, 52, .inl (fun _ => 0))), (y, .inr (7, [.ref y_refused, .ref y_document, .int 0, .int 0, .ref y_variables, .int 0, .ref y_nodes, .ref y_node, .ref y_master, .ref y_isSet, .ref y_setMany, .ref y_setFrom, .ref y_setUsed, .ref y_setText, .ref y_atStop, .ref y_isFresh, .ref y_then, .ref y_choiceMany, .ref y_choiceFrom, .ref y_choiceLong, .ref y_choiceBytes, .int 0, .ref y_text, .int i_length, .int i_readAt, .int i_isFaulty, .int i_occurrences, .ref y_open, .int i_deep, .ref y_shown, .int i_many, .int i_isTooMuch, .ref y_nextNode, .ref y_endNode, .ref y_made, .ref y_beganAt, .ref y_ofNode, .ref y_isOwn, .int i_levels, .ref y_begin, .ref y_size, .ref y_holding, .int i_states, .ref y_kept, .int (nI (560245 + i))])), (y_kept, .inl (g.2 1, 630000, .inl fk))] H locs := h
    have hl : lv_has ls 3 [(2, .int (nI i)), (0, .ref y), (1, .int 8)] := hl
    refine lv_iload_n hx hb dX7_writes_73 rfl (lv_at hl 0 rfl) ?_
    refine lv_bipush (v := 52) hx hb dX7_writes_74 (by decide) ?_
    refine lv_icmp_ge (tgt := 95) hx hb dX7_writes_76 (by decide) (fun c_10 => absurd c_10 (nI_ge (b := 52) hi (by decide))) (fun c_10 => ?_)
    refine lv_aload_n hx hb dX7_writes_79 rfl (lv_at hl 1 rfl) ?_
    refine lv_aload_n hx hb dX7_writes_80 rfl (lv_at hl 1 rfl) ?_
    refine r_get X h kl7 2 4 rfl (by decide) lk_X7_16 rfl dX7_writes_81 ?_
    refine lv_iload_n hx hb dX7_writes_84 rfl (lv_at hl 0 rfl) ?_
    refine r_iald X h 1 (v := 0) rfl (vp_in_nI hi (by decide)) rfl dX7_writes_85 ?_
    refine k_v X h [2, 3] [0, 1] (wr := [(y_document, .inl (g.2 1, 240, .inl (fun _ => 0))), (y_variables, .inl (g.2 1, 52, .inl (fun _ => 0)))]) rfl rfl rfl (by decide) 0 0 (Nat.le_of_ble_eq_true rfl) (Nat.le_of_ble_eq_true rfl) (k_runV X h (As := [.int 0]) (rest := []) (c7_put l g H.size y y_refused y_document y_variables y_nodes y_node y_master y_isSet y_setMany y_setFrom y_setUsed y_setText y_atStop y_isFresh y_then y_choiceMany y_choiceFrom y_choiceLong y_choiceBytes y_text y_open y_shown y_nextNode y_endNode y_made y_beganAt y_ofNode y_isOwn y_begin y_size y_holding y_kept 0 0 0 0 i_length i_readAt i_isFaulty i_occurrences i_deep i_many i_isTooMuch i_levels i_states ((nI (560245 + i))) 0 fk (vp_in_nI (by omega) (by decide))) cw_X7_272 [2, 3] rfl rfl 2 kl7 rfl rfl rfl (Nat.le_of_ble_eq_true rfl) (Nat.le_of_ble_eq_true rfl) rfl hl.1 rfl (Nat.le_of_ble_eq_true rfl) dX7_writes_86 (Nat.le_of_ble_eq_true rfl) (Nat.le_of_ble_eq_true rfl)) (fun u9 H locs h => ?_)
    obtain ⟨f_11, rfl⟩ : ∃ z, z = u9 := ⟨_, rfl⟩
    have h : ST g A s [(y_document, .inl (g.2 1, 240, .inl (fun _ => 0))), (y_variables, .inl (g.2 1, 52, .inl (fun _ => 0))), (y, .inr (7, [.ref y_refused, .ref y_document, .int 0, .int 0, .ref y_variables, .int 0, .ref y_nodes, .ref y_node, .ref y_master, .ref y_isSet, .ref y_setMany, .ref y_setFrom, .ref y_setUsed, .ref y_setText, .ref y_atStop, .ref y_isFresh, .ref y_then, .ref y_choiceMany, .ref y_choiceFrom, .ref y_choiceLong, .ref y_choiceBytes, .int 0, .ref y_text, .int i_length, .int i_readAt, .int i_isFaulty, .int i_occurrences, .ref y_open, .int i_deep, .ref y_shown, .int i_many, .int i_isTooMuch, .ref y_nextNode, .ref y_endNode, .ref y_made, .ref y_beganAt, .ref y_ofNode, .ref y_isOwn, .int i_levels, .ref y_begin, .ref y_size, .ref y_holding, .int i_states, .ref y_kept, .int ((nI (560245 + i)) + 1)])), (y_kept, .inl (g.2 1, 630000, .inl f_11))] H locs := h
    refine lv_iinc (v := (nI (i + 1))) (lv' := [(2, .int (nI (i + 1))), (0, .ref y), (1, .int 8)]) hx hb dX7_writes_89 hl (k := 0) rfl (nI_1 i) (by decide) rfl (fun ls hl => ?_)
    refine lv_goto (tgt := 73) hx hb dX7_writes_92 (by decide) ?_
    rw [nI_1] at h
    exact ih _ _ _ _ (h.sub [0, 1, 2, 3] rfl rfl) (lv_sub hl [0, 1, 2] rfl)
  obtain ⟨f_12, rfl⟩ : ∃ z, z = fk := ⟨_, rfl⟩
  have h : ST g A s [(y_document, .inl (g.2 1, 240, .inl (fun _ => 0))), (y_variables, .inl (g.2 1, 52, .inl (fun _ => 0))), (y, .inr (7, [.ref y_refused, .ref y_document, .int 0, .int 0, .ref y_variables, .int 0, .ref y_nodes, .ref y_node, .ref y_master, .ref y_isSet, .ref y_setMany, .ref y_setFrom, .ref y_setUsed, .ref y_setText, .ref y_atStop, .ref y_isFresh, .ref y_then, .ref y_choiceMany, .ref y_choiceFrom, .ref y_choiceLong, .ref y_choiceBytes, .int 0, .ref y_text, .int i_length, .int i_readAt, .int i_isFaulty, .int i_occurrences, .ref y_open, .int i_deep, .ref y_shown, .int i_many, .int i_isTooMuch, .ref y_nextNode, .ref y_endNode, .ref y_made, .ref y_beganAt, .ref y_ofNode, .ref y_isOwn, .int i_levels, .ref y_begin, .ref y_size, .ref y_holding, .int i_states, .ref y_kept, .int 560297])), (y_kept, .inl (g.2 1, 630000, .inl f_12))] H locs := h
  have hl : lv_has ls 3 [(2, .int 52), (0, .ref y), (1, .int 8)] := hl
  refine lv_iload_n hx hb dX7_writes_73 rfl (lv_at hl 0 rfl) ?_
  refine lv_bipush (v := 52) hx hb dX7_writes_74 (by decide) ?_
  refine lv_icmp_ge (tgt := 95) hx hb dX7_writes_76 (by decide) (fun c_13 => ?_) (fun c_13 => absurd (by decide) c_13)
  refine lv_iconst (v := 0) hx hb dX7_writes_95 (by decide) ?_
  refine lv_istore_n (lv' := [(2, .int 0), (0, .ref y), (1, .int 8)]) hx hb dX7_writes_96 rfl hl (by decide) rfl (fun ls hl => ?_)
  refine lv_iload_n hx hb dX7_writes_97 rfl (lv_at hl 0 rfl) ?_
  refine lv_aload_n hx hb dX7_writes_98 rfl (lv_at hl 1 rfl) ?_
  refine r_get X h kl7 2 5 rfl (by decide) lk_X7_257 rfl dX7_writes_99 ?_
  refine lv_icmp_ge (tgt := 116) hx hb dX7_writes_102 (by decide) (fun c_14 => ?_) (fun c_14 => absurd (by decide) c_14)
  refine lv_aload_n hx hb dX7_writes_116 rfl (lv_at hl 1 rfl) ?_
  refine r_get X h kl7 2 43 rfl (by decide) lk_X7_102 rfl dX7_writes_117 ?_
  refine r_ldcw X (v := 70000) lk_X7_278 dX7_writes_120 ?_
  refine lv_iload_n hx hb dX7_writes_123 rfl (lv_at hl 2 rfl) ?_
  refine lv_imul hx hb dX7_writes_124 ?_
  refine r_vi (y := 560000) (by decide) ?_
  refine lv_aload_n hx hb dX7_writes_125 rfl (lv_at hl 1 rfl) ?_
  refine r_get X h kl7 2 44 rfl (by decide) lk_X7_269 rfl dX7_writes_126 ?_
  refine r_ldcw X (v := 70000) lk_X7_278 dX7_writes_129 ?_
  refine lv_iload_n hx hb dX7_writes_132 rfl (lv_at hl 2 rfl) ?_
  refine lv_imul hx hb dX7_writes_133 ?_
  refine r_vi (y := 560000) (by decide) ?_
  refine lv_isub hx hb dX7_writes_134 ?_
  refine r_vi (y := 297) (by decide) ?_
  refine r_iast X h 3 rfl (vp_lit (by decide +kernel)) dX7_writes_135 (fun H locs h => ?_)
  have h : ST g A s [(y_document, .inl (g.2 1, 240, .inl (fun _ => 0))), (y_variables, .inl (g.2 1, 52, .inl (fun _ => 0))), (y, .inr (7, [.ref y_refused, .ref y_document, .int 0, .int 0, .ref y_variables, .int 0, .ref y_nodes, .ref y_node, .ref y_master, .ref y_isSet, .ref y_setMany, .ref y_setFrom, .ref y_setUsed, .ref y_setText, .ref y_atStop, .ref y_isFresh, .ref y_then, .ref y_choiceMany, .ref y_choiceFrom, .ref y_choiceLong, .ref y_choiceBytes, .int 0, .ref y_text, .int i_length, .int i_readAt, .int i_isFaulty, .int i_occurrences, .ref y_open, .int i_deep, .ref y_shown, .int i_many, .int i_isTooMuch, .ref y_nextNode, .ref y_endNode, .ref y_made, .ref y_beganAt, .ref y_ofNode, .ref y_isOwn, .int i_levels, .ref y_begin, .ref y_size, .ref y_holding, .int i_states, .ref y_kept, .int 560297])), (y_kept, .inl (g.2 1, 630000, .inl (upd f_12 560000 297)))] H locs := h
  exact r_vret X h hAe f_12 [2, 3, 0, 1] rfl rfl 0 0 (Nat.le_of_ble_eq_true rfl) (Nat.le_of_ble_eq_true rfl) dX7_writes_136

set_option maxHeartbeats 4000000 in
set_option maxRecDepth 100000 in
/-- copiesState(8, 0) -/
theorem c7_copiesState (l : Launch) (g : GE) (sz : Nat) (y : Nat) (y_refused : Nat) (y_document : Nat) (y_variables : Nat) (y_nodes : Nat) (y_node : Nat) (y_master : Nat) (y_isSet : Nat) (y_setMany : Nat) (y_setFrom : Nat) (y_setUsed : Nat) (y_setText : Nat) (y_atStop : Nat) (y_isFresh : Nat) (y_then : Nat) (y_choiceMany : Nat) (y_choiceFrom : Nat) (y_choiceLong : Nat) (y_choiceBytes : Nat) (y_text : Nat) (y_open : Nat) (y_shown : Nat) (y_nextNode : Nat) (y_endNode : Nat) (y_made : Nat) (y_beganAt : Nat) (y_ofNode : Nat) (y_isOwn : Nat) (y_begin : Nat) (y_size : Nat) (y_holding : Nat) (y_kept : Nat) (i_bytes : Int32) (i_caret : Int32) (i_sessions : Int32) (i_ahead : Int32) (i_length : Int32) (i_readAt : Int32) (i_isFaulty : Int32) (i_occurrences : Int32) (i_deep : Int32) (i_many : Int32) (i_isTooMuch : Int32) (i_levels : Int32) (i_states : Int32) (i_keptAt : Int32) (f : Nat → Int32) (hf : f 560000 = 297) : Met l yX7_copiesState (.code yX7_copiesState cX7_copiesState 5 none :: WL) { frames := 0, cells := 0, slots := 0, locals := 0 } (PR g [.ref y, .int 8, .int 0] [(y, .inr (7, [.ref y_refused, .ref y_document, .int i_bytes, .int i_caret, .ref y_variables, .int i_sessions, .ref y_nodes, .ref y_node, .ref y_master, .ref y_isSet, .ref y_setMany, .ref y_setFrom, .ref y_setUsed, .ref y_setText, .ref y_atStop, .ref y_isFresh, .ref y_then, .ref y_choiceMany, .ref y_choiceFrom, .ref y_choiceLong, .ref y_choiceBytes, .int i_ahead, .ref y_text, .int i_length, .int i_readAt, .int i_isFaulty, .int i_occurrences, .ref y_open, .int i_deep, .ref y_shown, .int i_many, .int i_isTooMuch, .ref y_nextNode, .ref y_endNode, .ref y_made, .ref y_beganAt, .ref y_ofNode, .ref y_isOwn, .int i_levels, .ref y_begin, .ref y_size, .ref y_holding, .int i_states, .ref y_kept, .int i_keptAt])), (y_kept, .inl (g.2 1, 630000, .inl f))] sz) (QV g [(y, .inr (7, [.ref y_refused, .ref y_document, .int i_bytes, .int i_caret, .ref y_variables, .int i_sessions, .ref y_nodes, .ref y_node, .ref y_master, .ref y_isSet, .ref y_setMany, .ref y_setFrom, .ref y_setUsed, .ref y_setText, .ref y_atStop, .ref y_isFresh, .ref y_then, .ref y_choiceMany, .ref y_choiceFrom, .ref y_choiceLong, .ref y_choiceBytes, .int i_ahead, .ref y_text, .int i_length, .int i_readAt, .int i_isFaulty, .int i_occurrences, .ref y_open, .int i_deep, .ref y_shown, .int i_many, .int i_isTooMuch, .ref y_nextNode, .ref y_endNode, .ref y_made, .ref y_beganAt, .ref y_ofNode, .ref y_isOwn, .int i_levels, .ref y_begin, .ref y_size, .ref y_holding, .int i_states, .ref y_kept, .int i_keptAt])), (y_kept, .inl (g.2 1, 630000, .inl f))] sz (fun u : (Nat → Int32) => [(y, .inr (7, [.ref y_refused, .ref y_document, .int i_bytes, .int i_caret, .ref y_variables, .int i_sessions, .ref y_nodes, .ref y_node, .ref y_master, .ref y_isSet, .ref y_setMany, .ref y_setFrom, .ref y_setUsed, .ref y_setText, .ref y_atStop, .ref y_isFresh, .ref y_then, .ref y_choiceMany, .ref y_choiceFrom, .ref y_choiceLong, .ref y_choiceBytes, .int i_ahead, .ref y_text, .int i_length, .int i_readAt, .int i_isFaulty, .int i_occurrences, .ref y_open, .int i_deep, .ref y_shown, .int i_many, .int i_isTooMuch, .ref y_nextNode, .ref y_endNode, .ref y_made, .ref y_beganAt, .ref y_ofNode, .ref y_isOwn, .int i_levels, .ref y_begin, .ref y_size, .ref y_holding, .int i_states, .ref y_kept, .int i_keptAt])), (y_kept, .inl (g.2 1, 630000, .inl u))])) 0 0 (va_A [(y, .inr (7, [.ref y_refused, .ref y_document, .int i_bytes, .int i_caret, .ref y_variables, .int i_sessions, .ref y_nodes, .ref y_node, .ref y_master, .ref y_isSet, .ref y_setMany, .ref y_setFrom, .ref y_setUsed, .ref y_setText, .ref y_atStop, .ref y_isFresh, .ref y_then, .ref y_choiceMany, .ref y_choiceFrom, .ref y_choiceLong, .ref y_choiceBytes, .int i_ahead, .ref y_text, .int i_length, .int i_readAt, .int i_isFaulty, .int i_occurrences, .ref y_open, .int i_deep, .ref y_shown, .int i_many, .int i_isTooMuch, .ref y_nextNode, .ref y_endNode, .ref y_made, .ref y_beganAt, .ref y_ofNode, .ref y_isOwn, .int i_levels, .ref y_begin, .ref y_size, .ref y_holding, .int i_states, .ref y_kept, .int i_keptAt])), (y_kept, .inl (g.2 1, 630000, .inl f))] sz) := by
  refine k_start (by decide) (Nat.le_of_ble_eq_true rfl) ?_
  intro pp ee s m bb mm cd A H locs hAe X h ls hl
  have X : CX g pp s m mm cd _ cX7_copiesState 5 RX7 "copiesState" none A := X
  have hx := X.1
  have hb := X.2.1
  have hl : lv_has ls 5 [(0, .ref y), (1, .int 8), (2, .int 0)] := hl
  refine lv_aload_n hx hb dX7_copiesState_0 rfl (lv_at hl 0 rfl) ?_
  refine r_get X h kl7 0 43 rfl (by decide) lk_X7_102 rfl dX7_copiesState_1 ?_
  refine r_ldcw X (v := 70000) lk_X7_278 dX7_copiesState_4 ?_
  refine lv_iload_n hx hb dX7_copiesState_7 rfl (lv_at hl 1 rfl) ?_
  refine lv_imul hx hb dX7_copiesState_8 ?_
  refine r_vi (y := 560000) (by decide) ?_
  refine r_iald X h 1 (v := 297) rfl (vp_lit (by decide +kernel)) hf dX7_copiesState_9 ?_
  refine lv_istore_n (lv' := [(3, .int 297), (0, .ref y), (1, .int 8), (2, .int 0)]) hx hb dX7_copiesState_10 rfl hl (by decide) rfl (fun ls hl => ?_)
  refine lv_iconst (v := 0) hx hb dX7_copiesState_11 (by decide) ?_
  refine lv_istore (lv' := [(4, .int 0), (3, .int 297), (0, .ref y), (1, .int 8), (2, .int 0)]) hx hb dX7_copiesState_12 hl (by decide) rfl (fun ls hl => ?_)
  refine k_loop 297 (f0 := f) (fun i fk => [(y, .inr (7, [.ref y_refused, .ref y_document, .int i_bytes, .int i_caret, .ref y_variables, .int i_sessions, .ref y_nodes, .ref y_node, .ref y_master, .ref y_isSet, .ref y_setMany, .ref y_setFrom, .ref y_setUsed, .ref y_setText, .ref y_atStop, .ref y_isFresh, .ref y_then, .ref y_choiceMany, .ref y_choiceFrom, .ref y_choiceLong, .ref y_choiceBytes, .int i_ahead, .ref y_text, .int i_length, .int i_readAt, .int i_isFaulty, .int i_occurrences, .ref y_open, .int i_deep, .ref y_shown, .int i_many, .int i_isTooMuch, .ref y_nextNode, .ref y_endNode, .ref y_made, .ref y_beganAt, .ref y_ofNode, .ref y_isOwn, .int i_levels, .ref y_begin, .ref y_size, .ref y_holding, .int i_states, .ref y_kept, .int i_keptAt])), (y_kept, .inl (g.2 1, 630000, .inl fk))]) (fun i => [(4, .int (nI i)), (3, .int 297), (0, .ref y), (1, .int 8), (2, .int 0)]) h hl (fun i hi ih fk H locs ls h hl => ?_) (fun fk H locs ls h hl => ?_)
  · have h : ST g A s [(y, .inr (7, [.ref y_refused, .ref y_document, .int i_bytes, .int i_caret, .ref y_variables, .int i_sessions, .ref y_nodes, .ref y_node, .ref y_master, .ref y_isSet, .ref y_setMany, .ref y_setFrom, .ref y_setUsed, .ref y_setText, .ref y_atStop, .ref y_isFresh, .ref y_then, .ref y_choiceMany, .ref y_choiceFrom, .ref y_choiceLong, .ref y_choiceBytes, .int i_ahead, .ref y_text, .int i_length, .int i_readAt, .int i_isFaulty, .int i_occurrences, .ref y_open, .int i_deep, .ref y_shown, .int i_many, .int i_isTooMuch, .ref y_nextNode, .ref y_endNode, .ref y_made, .ref y_beganAt, .ref y_ofNode, .ref y_isOwn, .int i_levels, .ref y_begin, .ref y_size, .ref y_holding, .int i_states, .ref y_kept, .int i_keptAt])), (y_kept, .inl (g.2 1, 630000, .inl fk))] H locs := h
    have hl : lv_has ls 5 [(4, .int (nI i)), (3, .int 297), (0, .ref y), (1, .int 8), (2, .int 0)] := hl
    refine lv_iload hx hb dX7_copiesState_14 (lv_at hl 0 rfl) ?_
    refine lv_iload_n hx hb dX7_copiesState_16 rfl (lv_at hl 1 rfl) ?_
    refine lv_icmp_ge (tgt := 52) hx hb dX7_copiesState_17 (by decide) (fun c_1 => absurd c_1 (nI_ge (b := 297) hi (by decide))) (fun c_1 => ?_)
    refine lv_aload_n hx hb dX7_copiesState_20 rfl (lv_at hl 2 rfl) ?_
    refine r_get X h kl7 0 43 rfl (by decide) lk_X7_102 rfl dX7_copiesState_21 ?_
    refine r_ldcw X (v := 70000) lk_X7_278 dX7_copiesState_24 ?_
    refine lv_iload_n hx hb dX7_copiesState_27 rfl (lv_at hl 4 rfl) ?_
    refine lv_imul hx hb dX7_copiesState_28 ?_
    refine r_vi (y := 0) (by decide) ?_
    refine lv_iload hx hb dX7_copiesState_29 (lv_at hl 0 rfl) ?_
    refine lv_iadd hx hb dX7_copiesState_31 ?_
    refine r_vi (y := (nI i)) (Int32.zero_add _) ?_
    refine lv_aload_n hx hb dX7_copiesState_32 rfl (lv_at hl 2 rfl) ?_
    refine r_get X h kl7 0 43 rfl (by decide) lk_X7_102 rfl dX7_copiesState_33 ?_
    refine r_ldcw X (v := 70000) lk_X7_278 dX7_copiesState_36 ?_
    refine lv_iload_n hx hb dX7_copiesState_39 rfl (lv_at hl 3 rfl) ?_
    refine lv_imul hx hb dX7_copiesState_40 ?_
    refine r_vi (y := 560000) (by decide) ?_
    refine lv_iload hx hb dX7_copiesState_41 (lv_at hl 0 rfl) ?_
    refine lv_iadd hx hb dX7_copiesState_43 ?_
    refine r_vi (y := (nI (560000 + i))) (nI_add 560000 i) ?_
    refine r_iald X h 1 (v := (fk (Int32.toNatClampNeg (nI (560000 + i))))) rfl (vp_in_nI (by omega) (by decide)) rfl dX7_copiesState_44 ?_
    refine r_iastF X h 1 rfl (vp_in_nI (by omega) (by decide)) dX7_copiesState_45 (fun f_2 H locs h => ?_)
    have h : ST g A s [(y, .inr (7, [.ref y_refused, .ref y_document, .int i_bytes, .int i_caret, .ref y_variables, .int i_sessions, .ref y_nodes, .ref y_node, .ref y_master, .ref y_isSet, .ref y_setMany, .ref y_setFrom, .ref y_setUsed, .ref y_setText, .ref y_atStop, .ref y_isFresh, .ref y_then, .ref y_choiceMany, .ref y_choiceFrom, .ref y_choiceLong, .ref y_choiceBytes, .int i_ahead, .ref y_text, .int i_length, .int i_readAt, .int i_isFaulty, .int i_occurrences, .ref y_open, .int i_deep, .ref y_shown, .int i_many, .int i_isTooMuch, .ref y_nextNode, .ref y_endNode, .ref y_made, .ref y_beganAt, .ref y_ofNode, .ref y_isOwn, .int i_levels, .ref y_begin, .ref y_size, .ref y_holding, .int i_states, .ref y_kept, .int i_keptAt])), (y_kept, .inl (g.2 1, 630000, .inl f_2))] H locs := h
    refine lv_iinc (v := (nI (i + 1))) (lv' := [(4, .int (nI (i + 1))), (3, .int 297), (0, .ref y), (1, .int 8), (2, .int 0)]) hx hb dX7_copiesState_46 hl (k := 0) rfl (nI_1 i) (by decide) rfl (fun ls hl => ?_)
    refine lv_goto (tgt := 14) hx hb dX7_copiesState_49 (by decide) ?_
    exact ih _ _ _ _ (h.sub [0, 1] rfl rfl) (lv_sub hl [0, 1, 2, 3, 4] rfl)
  obtain ⟨f_3, rfl⟩ : ∃ z, z = fk := ⟨_, rfl⟩
  have h : ST g A s [(y, .inr (7, [.ref y_refused, .ref y_document, .int i_bytes, .int i_caret, .ref y_variables, .int i_sessions, .ref y_nodes, .ref y_node, .ref y_master, .ref y_isSet, .ref y_setMany, .ref y_setFrom, .ref y_setUsed, .ref y_setText, .ref y_atStop, .ref y_isFresh, .ref y_then, .ref y_choiceMany, .ref y_choiceFrom, .ref y_choiceLong, .ref y_choiceBytes, .int i_ahead, .ref y_text, .int i_length, .int i_readAt, .int i_isFaulty, .int i_occurrences, .ref y_open, .int i_deep, .ref y_shown, .int i_many, .int i_isTooMuch, .ref y_nextNode, .ref y_endNode, .ref y_made, .ref y_beganAt, .ref y_ofNode, .ref y_isOwn, .int i_levels, .ref y_begin, .ref y_size, .ref y_holding, .int i_states, .ref y_kept, .int i_keptAt])), (y_kept, .inl (g.2 1, 630000, .inl f_3))] H locs := h
  have hl : lv_has ls 5 [(4, .int 297), (3, .int 297), (0, .ref y), (1, .int 8), (2, .int 0)] := hl
  refine lv_iload hx hb dX7_copiesState_14 (lv_at hl 0 rfl) ?_
  refine lv_iload_n hx hb dX7_copiesState_16 rfl (lv_at hl 1 rfl) ?_
  refine lv_icmp_ge (tgt := 52) hx hb dX7_copiesState_17 (by decide) (fun c_4 => ?_) (fun c_4 => absurd (by decide) c_4)
  exact r_vret X h hAe f_3 [0, 1] rfl rfl 0 0 (Nat.le_of_ble_eq_true rfl) (Nat.le_of_ble_eq_true rfl) dX7_copiesState_52

set_option maxHeartbeats 4000000 in
set_option maxRecDepth 100000 in
/-- leavesState(), none left yet -/
theorem c7_leavesState (l : Launch) (g : GE) (sz : Nat) (y : Nat) (y_refused : Nat) (y_document : Nat) (y_variables : Nat) (y_nodes : Nat) (y_node : Nat) (y_master : Nat) (y_isSet : Nat) (y_setMany : Nat) (y_setFrom : Nat) (y_setUsed : Nat) (y_setText : Nat) (y_atStop : Nat) (y_isFresh : Nat) (y_then : Nat) (y_choiceMany : Nat) (y_choiceFrom : Nat) (y_choiceLong : Nat) (y_choiceBytes : Nat) (y_text : Nat) (y_open : Nat) (y_shown : Nat) (y_nextNode : Nat) (y_endNode : Nat) (y_made : Nat) (y_beganAt : Nat) (y_ofNode : Nat) (y_isOwn : Nat) (y_begin : Nat) (y_size : Nat) (y_holding : Nat) (y_kept : Nat) (i_bytes : Int32) (i_caret : Int32) (i_sessions : Int32) (i_ahead : Int32) (i_length : Int32) (i_readAt : Int32) (i_isFaulty : Int32) (i_occurrences : Int32) (i_deep : Int32) (i_many : Int32) (i_isTooMuch : Int32) (i_levels : Int32) (i_keptAt : Int32) (f : Nat → Int32) (hf : f 560000 = 297) : Met l yX7_leavesState (.code yX7_leavesState cX7_leavesState 2 none :: WL) { frames := 1, cells := 0, slots := 0, locals := 24 } (PR g [.ref y] [(y, .inr (7, [.ref y_refused, .ref y_document, .int i_bytes, .int i_caret, .ref y_variables, .int i_sessions, .ref y_nodes, .ref y_node, .ref y_master, .ref y_isSet, .ref y_setMany, .ref y_setFrom, .ref y_setUsed, .ref y_setText, .ref y_atStop, .ref y_isFresh, .ref y_then, .ref y_choiceMany, .ref y_choiceFrom, .ref y_choiceLong, .ref y_choiceBytes, .int i_ahead, .ref y_text, .int i_length, .int i_readAt, .int i_isFaulty, .int i_occurrences, .ref y_open, .int i_deep, .ref y_shown, .int i_many, .int i_isTooMuch, .ref y_nextNode, .ref y_endNode, .ref y_made, .ref y_beganAt, .ref y_ofNode, .ref y_isOwn, .int i_levels, .ref y_begin, .ref y_size, .ref y_holding, .int 0, .ref y_kept, .int i_keptAt])), (y_kept, .inl (g.2 1, 630000, .inl f))] sz) (QV g [(y, .inr (7, [.ref y_refused, .ref y_document, .int i_bytes, .int i_caret, .ref y_variables, .int i_sessions, .ref y_nodes, .ref y_node, .ref y_master, .ref y_isSet, .ref y_setMany, .ref y_setFrom, .ref y_setUsed, .ref y_setText, .ref y_atStop, .ref y_isFresh, .ref y_then, .ref y_choiceMany, .ref y_choiceFrom, .ref y_choiceLong, .ref y_choiceBytes, .int i_ahead, .ref y_text, .int i_length, .int i_readAt, .int i_isFaulty, .int i_occurrences, .ref y_open, .int i_deep, .ref y_shown, .int i_many, .int i_isTooMuch, .ref y_nextNode, .ref y_endNode, .ref y_made, .ref y_beganAt, .ref y_ofNode, .ref y_isOwn, .int i_levels, .ref y_begin, .ref y_size, .ref y_holding, .int 0, .ref y_kept, .int i_keptAt])), (y_kept, .inl (g.2 1, 630000, .inl f))] sz (fun u : (Nat → Int32) => [(y, .inr (7, [.ref y_refused, .ref y_document, .int i_bytes, .int i_caret, .ref y_variables, .int i_sessions, .ref y_nodes, .ref y_node, .ref y_master, .ref y_isSet, .ref y_setMany, .ref y_setFrom, .ref y_setUsed, .ref y_setText, .ref y_atStop, .ref y_isFresh, .ref y_then, .ref y_choiceMany, .ref y_choiceFrom, .ref y_choiceLong, .ref y_choiceBytes, .int i_ahead, .ref y_text, .int i_length, .int i_readAt, .int i_isFaulty, .int i_occurrences, .ref y_open, .int i_deep, .ref y_shown, .int i_many, .int i_isTooMuch, .ref y_nextNode, .ref y_endNode, .ref y_made, .ref y_beganAt, .ref y_ofNode, .ref y_isOwn, .int i_levels, .ref y_begin, .ref y_size, .ref y_holding, .int 1, .ref y_kept, .int i_keptAt])), (y_kept, .inl (g.2 1, 630000, .inl u))])) 0 0 (va_A [(y, .inr (7, [.ref y_refused, .ref y_document, .int i_bytes, .int i_caret, .ref y_variables, .int i_sessions, .ref y_nodes, .ref y_node, .ref y_master, .ref y_isSet, .ref y_setMany, .ref y_setFrom, .ref y_setUsed, .ref y_setText, .ref y_atStop, .ref y_isFresh, .ref y_then, .ref y_choiceMany, .ref y_choiceFrom, .ref y_choiceLong, .ref y_choiceBytes, .int i_ahead, .ref y_text, .int i_length, .int i_readAt, .int i_isFaulty, .int i_occurrences, .ref y_open, .int i_deep, .ref y_shown, .int i_many, .int i_isTooMuch, .ref y_nextNode, .ref y_endNode, .ref y_made, .ref y_beganAt, .ref y_ofNode, .ref y_isOwn, .int i_levels, .ref y_begin, .ref y_size, .ref y_holding, .int 0, .ref y_kept, .int i_keptAt])), (y_kept, .inl (g.2 1, 630000, .inl f))] sz) := by
  refine k_start (by decide) (Nat.le_of_ble_eq_true rfl) ?_
  intro pp ee s m bb mm cd A H locs hAe X h ls hl
  have X : CX g pp s m mm cd _ cX7_leavesState 2 RX7 "leavesState" none A := X
  have hx := X.1
  have hb := X.2.1
  have hl : lv_has ls 2 [(0, .ref y)] := hl
  refine lv_aload_n hx hb dX7_leavesState_0 rfl (lv_at hl 0 rfl) ?_
  refine r_get X h kl7 0 42 rfl (by decide) lk_X7_294 rfl dX7_leavesState_1 ?_
  refine lv_bipush (v := 8) hx hb dX7_leavesState_4 (by decide) ?_
  refine lv_icmp_ne (tgt := 41) hx hb dX7_leavesState_6 (by decide) (fun c_1 => ?_) (fun c_1 => absurd c_1 (by decide))
  refine lv_aload_n hx hb dX7_leavesState_41 rfl (lv_at hl 0 rfl) ?_
  refine lv_bipush (v := 8) hx hb dX7_leavesState_42 (by decide) ?_
  refine lv_aload_n hx hb dX7_leavesState_44 rfl (lv_at hl 0 rfl) ?_
  refine r_get X h kl7 0 42 rfl (by decide) lk_X7_294 rfl dX7_leavesState_45 ?_
  refine k_v X h [0, 1] [] (wr := []) rfl rfl rfl (by decide) 0 0 (Nat.le_of_ble_eq_true rfl) (Nat.le_of_ble_eq_true rfl) (k_runV X h (As := [.int 8, .int 0]) (rest := []) (c7_copiesState l g H.size y y_refused y_document y_variables y_nodes y_node y_master y_isSet y_setMany y_setFrom y_setUsed y_setText y_atStop y_isFresh y_then y_choiceMany y_choiceFrom y_choiceLong y_choiceBytes y_text y_open y_shown y_nextNode y_endNode y_made y_beganAt y_ofNode y_isOwn y_begin y_size y_holding y_kept i_bytes i_caret i_sessions i_ahead i_length i_readAt i_isFaulty i_occurrences i_deep i_many i_isTooMuch i_levels 0 i_keptAt f hf) cw_X7_297 [0, 1] rfl rfl 0 kl7 rfl rfl rfl (Nat.le_of_ble_eq_true rfl) (Nat.le_of_ble_eq_true rfl) rfl hl.1 rfl (Nat.le_of_ble_eq_true rfl) dX7_leavesState_48 (Nat.le_of_ble_eq_true rfl) (Nat.le_of_ble_eq_true rfl)) (fun u9 H locs h => ?_)
  obtain ⟨f_2, rfl⟩ : ∃ z, z = u9 := ⟨_, rfl⟩
  have h : ST g A s [(y, .inr (7, [.ref y_refused, .ref y_document, .int i_bytes, .int i_caret, .ref y_variables, .int i_sessions, .ref y_nodes, .ref y_node, .ref y_master, .ref y_isSet, .ref y_setMany, .ref y_setFrom, .ref y_setUsed, .ref y_setText, .ref y_atStop, .ref y_isFresh, .ref y_then, .ref y_choiceMany, .ref y_choiceFrom, .ref y_choiceLong, .ref y_choiceBytes, .int i_ahead, .ref y_text, .int i_length, .int i_readAt, .int i_isFaulty, .int i_occurrences, .ref y_open, .int i_deep, .ref y_shown, .int i_many, .int i_isTooMuch, .ref y_nextNode, .ref y_endNode, .ref y_made, .ref y_beganAt, .ref y_ofNode, .ref y_isOwn, .int i_levels, .ref y_begin, .ref y_size, .ref y_holding, .int 0, .ref y_kept, .int i_keptAt])), (y_kept, .inl (g.2 1, 630000, .inl f_2))] H locs := h
  refine lv_aload_n hx hb dX7_leavesState_51 rfl (lv_at hl 0 rfl) ?_
  refine lv_dup hx hb dX7_leavesState_52 rfl ?_
  refine r_get X h kl7 0 42 rfl (by decide) lk_X7_294 rfl dX7_leavesState_53 ?_
  refine lv_iconst (v := 1) hx hb dX7_leavesState_56 (by decide) ?_
  refine lv_iadd hx hb dX7_leavesState_57 ?_
  refine r_vi (y := 1) (by decide) ?_
  refine r_put X h kl7 0 42 (v := .int 1) rfl (by decide) lk_X7_294 rfl rfl rfl (Nat.le_of_ble_eq_true rfl) dX7_leavesState_58 (fun H locs h => ?_)
  have h : ST g A s [(y, .inr (7, [.ref y_refused, .ref y_document, .int i_bytes, .int i_caret, .ref y_variables, .int i_sessions, .ref y_nodes, .ref y_node, .ref y_master, .ref y_isSet, .ref y_setMany, .ref y_setFrom, .ref y_setUsed, .ref y_setText, .ref y_atStop, .ref y_isFresh, .ref y_then, .ref y_choiceMany, .ref y_choiceFrom, .ref y_choiceLong, .ref y_choiceBytes, .int i_ahead, .ref y_text, .int i_length, .int i_readAt, .int i_isFaulty, .int i_occurrences, .ref y_open, .int i_deep, .ref y_shown, .int i_many, .int i_isTooMuch, .ref y_nextNode, .ref y_endNode, .ref y_made, .ref y_beganAt, .ref y_ofNode, .ref y_isOwn, .int i_levels, .ref y_begin, .ref y_size, .ref y_holding, .int 1, .ref y_kept, .int i_keptAt])), (y_kept, .inl (g.2 1, 630000, .inl f_2))] H locs := h
  exact r_vret X h hAe f_2 [0, 1] rfl rfl 0 0 (Nat.le_of_ble_eq_true rfl) (Nat.le_of_ble_eq_true rfl) dX7_leavesState_61

set_option maxHeartbeats 4000000 in
set_option maxRecDepth 100000 in
/-- begun(0), no nodes -/
theorem c7_begun (l : Launch) (g : GE) (sz : Nat) (y : Nat) (y_refused : Nat) (y_document : Nat) (y_variables : Nat) (y_nodes : Nat) (y_node : Nat) (y_master : Nat) (y_isSet : Nat) (y_setMany : Nat) (y_setFrom : Nat) (y_setUsed : Nat) (y_setText : Nat) (y_atStop : Nat) (y_isFresh : Nat) (y_then : Nat) (y_choiceMany : Nat) (y_choiceFrom : Nat) (y_choiceLong : Nat) (y_choiceBytes : Nat) (y_text : Nat) (y_open : Nat) (y_shown : Nat) (y_nextNode : Nat) (y_endNode : Nat) (y_made : Nat) (y_beganAt : Nat) (y_ofNode : Nat) (y_isOwn : Nat) (y_begin : Nat) (y_size : Nat) (y_holding : Nat) (y_kept : Nat) (i_bytes : Int32) (i_ahead : Int32) (i_length : Int32) (i_readAt : Int32) (i_isFaulty : Int32) (i_occurrences : Int32) (i_deep : Int32) (i_many : Int32) (i_isTooMuch : Int32) (i_levels : Int32) (i_states : Int32) (i_keptAt : Int32) (fn : Nat → Int32) (fm : Nat → Int32) (hn : fn 0 = 0) : Met l yX7_begun (.code yX7_begun cX7_begun 3 none :: WL) { frames := 2, cells := 0, slots := 0, locals := 48 } (PR g [.ref y, .int 0] [(y, .inr (7, [.ref y_refused, .ref y_document, .int i_bytes, .int 0, .ref y_variables, .int 0, .ref y_nodes, .ref y_node, .ref y_master, .ref y_isSet, .ref y_setMany, .ref y_setFrom, .ref y_setUsed, .ref y_setText, .ref y_atStop, .ref y_isFresh, .ref y_then, .ref y_choiceMany, .ref y_choiceFrom, .ref y_choiceLong, .ref y_choiceBytes, .int i_ahead, .ref y_text, .int i_length, .int i_readAt, .int i_isFaulty, .int i_occurrences, .ref y_open, .int i_deep, .ref y_shown, .int i_many, .int i_isTooMuch, .ref y_nextNode, .ref y_endNode, .ref y_made, .ref y_beganAt, .ref y_ofNode, .ref y_isOwn, .int i_levels, .ref y_begin, .ref y_size, .ref y_holding, .int i_states, .ref y_kept, .int i_keptAt])), (y_nodes, .inl (g.2 1, 4, .inl fn)), (y_master, .inl (g.2 1, 40, .inl fm)), (y_isSet, .inl (g.2 1, 30, .inl (fun _ => 0))), (y_setMany, .inl (g.2 1, 30, .inl (fun _ => 0))), (y_setFrom, .inl (g.2 1, 30, .inl (fun _ => 0))), (y_setUsed, .inl (g.2 1, 3, .inl (fun _ => 0))), (y_then, .inl (g.2 1, 156, .inl (fun _ => 0))), (y_variables, .inl (g.2 1, 52, .inl (fun _ => 0))), (y_atStop, .inl (g.2 1, 3, .inl (fun _ => 0))), (y_isFresh, .inl (g.2 1, 3, .inl (fun _ => 0)))] sz) (QV g [(y, .inr (7, [.ref y_refused, .ref y_document, .int i_bytes, .int 0, .ref y_variables, .int 0, .ref y_nodes, .ref y_node, .ref y_master, .ref y_isSet, .ref y_setMany, .ref y_setFrom, .ref y_setUsed, .ref y_setText, .ref y_atStop, .ref y_isFresh, .ref y_then, .ref y_choiceMany, .ref y_choiceFrom, .ref y_choiceLong, .ref y_choiceBytes, .int i_ahead, .ref y_text, .int i_length, .int i_readAt, .int i_isFaulty, .int i_occurrences, .ref y_open, .int i_deep, .ref y_shown, .int i_many, .int i_isTooMuch, .ref y_nextNode, .ref y_endNode, .ref y_made, .ref y_beganAt, .ref y_ofNode, .ref y_isOwn, .int i_levels, .ref y_begin, .ref y_size, .ref y_holding, .int i_states, .ref y_kept, .int i_keptAt])), (y_nodes, .inl (g.2 1, 4, .inl fn)), (y_master, .inl (g.2 1, 40, .inl fm)), (y_isSet, .inl (g.2 1, 30, .inl (fun _ => 0))), (y_setMany, .inl (g.2 1, 30, .inl (fun _ => 0))), (y_setFrom, .inl (g.2 1, 30, .inl (fun _ => 0))), (y_setUsed, .inl (g.2 1, 3, .inl (fun _ => 0))), (y_then, .inl (g.2 1, 156, .inl (fun _ => 0))), (y_variables, .inl (g.2 1, 52, .inl (fun _ => 0))), (y_atStop, .inl (g.2 1, 3, .inl (fun _ => 0))), (y_isFresh, .inl (g.2 1, 3, .inl (fun _ => 0)))] sz (fun _ : Unit => [(y, .inr (7, [.ref y_refused, .ref y_document, .int i_bytes, .int 0, .ref y_variables, .int 1, .ref y_nodes, .ref y_node, .ref y_master, .ref y_isSet, .ref y_setMany, .ref y_setFrom, .ref y_setUsed, .ref y_setText, .ref y_atStop, .ref y_isFresh, .ref y_then, .ref y_choiceMany, .ref y_choiceFrom, .ref y_choiceLong, .ref y_choiceBytes, .int 0, .ref y_text, .int i_length, .int i_readAt, .int i_isFaulty, .int i_occurrences, .ref y_open, .int i_deep, .ref y_shown, .int i_many, .int i_isTooMuch, .ref y_nextNode, .ref y_endNode, .ref y_made, .ref y_beganAt, .ref y_ofNode, .ref y_isOwn, .int i_levels, .ref y_begin, .ref y_size, .ref y_holding, .int i_states, .ref y_kept, .int i_keptAt])), (y_nodes, .inl (g.2 1, 4, .inl fn)), (y_atStop, .inl (g.2 1, 3, .inl (upd (fun _ => 0) 0 (-1))))])) 0 0 (va_A [(y, .inr (7, [.ref y_refused, .ref y_document, .int i_bytes, .int 0, .ref y_variables, .int 0, .ref y_nodes, .ref y_node, .ref y_master, .ref y_isSet, .ref y_setMany, .ref y_setFrom, .ref y_setUsed, .ref y_setText, .ref y_atStop, .ref y_isFresh, .ref y_then, .ref y_choiceMany, .ref y_choiceFrom, .ref y_choiceLong, .ref y_choiceBytes, .int i_ahead, .ref y_text, .int i_length, .int i_readAt, .int i_isFaulty, .int i_occurrences, .ref y_open, .int i_deep, .ref y_shown, .int i_many, .int i_isTooMuch, .ref y_nextNode, .ref y_endNode, .ref y_made, .ref y_beganAt, .ref y_ofNode, .ref y_isOwn, .int i_levels, .ref y_begin, .ref y_size, .ref y_holding, .int i_states, .ref y_kept, .int i_keptAt])), (y_nodes, .inl (g.2 1, 4, .inl fn)), (y_master, .inl (g.2 1, 40, .inl fm)), (y_isSet, .inl (g.2 1, 30, .inl (fun _ => 0))), (y_setMany, .inl (g.2 1, 30, .inl (fun _ => 0))), (y_setFrom, .inl (g.2 1, 30, .inl (fun _ => 0))), (y_setUsed, .inl (g.2 1, 3, .inl (fun _ => 0))), (y_then, .inl (g.2 1, 156, .inl (fun _ => 0))), (y_variables, .inl (g.2 1, 52, .inl (fun _ => 0))), (y_atStop, .inl (g.2 1, 3, .inl (fun _ => 0))), (y_isFresh, .inl (g.2 1, 3, .inl (fun _ => 0)))] sz) := by
  refine k_start (by decide) (Nat.le_of_ble_eq_true rfl) ?_
  intro pp ee s m bb mm cd A H locs hAe X h ls hl
  have X : CX g pp s m mm cd _ cX7_begun 3 RX7 "begun" none A := X
  have hx := X.1
  have hb := X.2.1
  have hl : lv_has ls 3 [(0, .ref y), (1, .int 0)] := hl
  refine lv_aload_n hx hb dX7_begun_0 rfl (lv_at hl 0 rfl) ?_
  refine lv_iload_n hx hb dX7_begun_1 rfl (lv_at hl 1 rfl) ?_
  refine k_v X h [0, 1, 2] [3, 4, 5, 6, 7, 8, 9, 10] (wr := [(y_isSet, .inl (g.2 1, 30, .inl (fun _ => 0))), (y_setMany, .inl (g.2 1, 30, .inl (fun _ => 0))), (y_setFrom, .inl (g.2 1, 30, .inl (fun _ => 0))), (y_setUsed, .inl (g.2 1, 3, .inl (fun _ => 0))), (y_then, .inl (g.2 1, 156, .inl (fun _ => 0))), (y_variables, .inl (g.2 1, 52, .inl (fun _ => 0))), (y_atStop, .inl (g.2 1, 3, .inl (fun _ => 0))), (y_isFresh, .inl (g.2 1, 3, .inl (fun _ => 0)))]) rfl rfl rfl (by decide) 0 0 (Nat.le_of_ble_eq_true rfl) (Nat.le_of_ble_eq_true rfl) (k_runV X h (As := [.int 0]) (rest := []) (c7_settles l g H.size y y_refused y_document y_variables y_nodes y_node y_master y_isSet y_setMany y_setFrom y_setUsed y_setText y_atStop y_isFresh y_then y_choiceMany y_choiceFrom y_choiceLong y_choiceBytes y_text y_open y_shown y_nextNode y_endNode y_made y_beganAt y_ofNode y_isOwn y_begin y_size y_holding y_kept i_bytes 0 0 i_ahead i_length i_readAt i_isFaulty i_occurrences i_deep i_many i_isTooMuch i_levels i_states i_keptAt fn fm hn) cw_X7_337 [0, 1, 2] rfl rfl 0 kl7 rfl rfl rfl (Nat.le_of_ble_eq_true rfl) (Nat.le_of_ble_eq_true rfl) rfl hl.1 rfl (Nat.le_of_ble_eq_true rfl) dX7_begun_2 (Nat.le_of_ble_eq_true rfl) (Nat.le_of_ble_eq_true rfl)) (fun u9 H locs h => ?_)
  obtain ⟨f_1, rfl⟩ : ∃ z, z = u9 := ⟨_, rfl⟩
  have h : ST g A s [(y_isSet, .inl (g.2 1, 30, .inl (fun _ => 0))), (y_setMany, .inl (g.2 1, 30, .inl (fun _ => 0))), (y_setFrom, .inl (g.2 1, 30, .inl (fun _ => 0))), (y_setUsed, .inl (g.2 1, 3, .inl (fun _ => 0))), (y_then, .inl (g.2 1, 156, .inl (fun _ => 0))), (y_variables, .inl (g.2 1, 52, .inl (fun _ => 0))), (y_atStop, .inl (g.2 1, 3, .inl (fun _ => 0))), (y_isFresh, .inl (g.2 1, 3, .inl (fun _ => 0))), (y, .inr (7, [.ref y_refused, .ref y_document, .int i_bytes, .int 0, .ref y_variables, .int 0, .ref y_nodes, .ref y_node, .ref y_master, .ref y_isSet, .ref y_setMany, .ref y_setFrom, .ref y_setUsed, .ref y_setText, .ref y_atStop, .ref y_isFresh, .ref y_then, .ref y_choiceMany, .ref y_choiceFrom, .ref y_choiceLong, .ref y_choiceBytes, .int i_ahead, .ref y_text, .int i_length, .int i_readAt, .int i_isFaulty, .int i_occurrences, .ref y_open, .int i_deep, .ref y_shown, .int i_many, .int i_isTooMuch, .ref y_nextNode, .ref y_endNode, .ref y_made, .ref y_beganAt, .ref y_ofNode, .ref y_isOwn, .int i_levels, .ref y_begin, .ref y_size, .ref y_holding, .int i_states, .ref y_kept, .int i_keptAt])), (y_nodes, .inl (g.2 1, 4, .inl fn)), (y_master, .inl (g.2 1, 40, .inl f_1))] H locs := h
  refine lv_iconst (v := 0) hx hb dX7_begun_5 (by decide) ?_
  refine lv_istore_n (lv' := [(2, .int 0), (0, .ref y), (1, .int 0)]) hx hb dX7_begun_6 rfl hl (by decide) rfl (fun ls hl => ?_)
  refine lv_iload_n hx hb dX7_begun_7 rfl (lv_at hl 0 rfl) ?_
  refine lv_bipush (v := 10) hx hb dX7_begun_8 (by decide) ?_
  refine lv_icmp_ge (tgt := 55) hx hb dX7_begun_10 (by decide) (fun c_2 => absurd c_2 (by decide)) (fun c_2 => ?_)
  refine lv_aload_n hx hb dX7_begun_13 rfl (lv_at hl 1 rfl) ?_
  refine r_get X h kl7 8 9 rfl (by decide) lk_X7_28 rfl dX7_begun_14 ?_
  refine lv_bipush (v := 10) hx hb dX7_begun_17 (by decide) ?_
  refine lv_iload_n hx hb dX7_begun_19 rfl (lv_at hl 2 rfl) ?_
  refine lv_imul hx hb dX7_begun_20 ?_
  refine r_vi (y := 0) (by decide) ?_
  refine lv_iload_n hx hb dX7_begun_21 rfl (lv_at hl 0 rfl) ?_
  refine lv_iadd hx hb dX7_begun_22 ?_
  refine r_vi (y := 0) (by decide) ?_
  refine lv_iconst (v := 0) hx hb dX7_begun_23 (by decide) ?_
  refine r_iastF X h 0 rfl (vp_lit (by decide +kernel)) dX7_begun_24 (fun f_3 H locs h => ?_)
  have h : ST g A s [(y_isSet, .inl (g.2 1, 30, .inl f_3)), (y_setMany, .inl (g.2 1, 30, .inl (fun _ => 0))), (y_setFrom, .inl (g.2 1, 30, .inl (fun _ => 0))), (y_setUsed, .inl (g.2 1, 3, .inl (fun _ => 0))), (y_then, .inl (g.2 1, 156, .inl (fun _ => 0))), (y_variables, .inl (g.2 1, 52, .inl (fun _ => 0))), (y_atStop, .inl (g.2 1, 3, .inl (fun _ => 0))), (y_isFresh, .inl (g.2 1, 3, .inl (fun _ => 0))), (y, .inr (7, [.ref y_refused, .ref y_document, .int i_bytes, .int 0, .ref y_variables, .int 0, .ref y_nodes, .ref y_node, .ref y_master, .ref y_isSet, .ref y_setMany, .ref y_setFrom, .ref y_setUsed, .ref y_setText, .ref y_atStop, .ref y_isFresh, .ref y_then, .ref y_choiceMany, .ref y_choiceFrom, .ref y_choiceLong, .ref y_choiceBytes, .int i_ahead, .ref y_text, .int i_length, .int i_readAt, .int i_isFaulty, .int i_occurrences, .ref y_open, .int i_deep, .ref y_shown, .int i_many, .int i_isTooMuch, .ref y_nextNode, .ref y_endNode, .ref y_made, .ref y_beganAt, .ref y_ofNode, .ref y_isOwn, .int i_levels, .ref y_begin, .ref y_size, .ref y_holding, .int i_states, .ref y_kept, .int i_keptAt])), (y_nodes, .inl (g.2 1, 4, .inl fn)), (y_master, .inl (g.2 1, 40, .inl f_1))] H locs := h
  refine lv_aload_n hx hb dX7_begun_25 rfl (lv_at hl 1 rfl) ?_
  refine r_get X h kl7 8 10 rfl (by decide) lk_X7_31 rfl dX7_begun_26 ?_
  refine lv_bipush (v := 10) hx hb dX7_begun_29 (by decide) ?_
  refine lv_iload_n hx hb dX7_begun_31 rfl (lv_at hl 2 rfl) ?_
  refine lv_imul hx hb dX7_begun_32 ?_
  refine r_vi (y := 0) (by decide) ?_
  refine lv_iload_n hx hb dX7_begun_33 rfl (lv_at hl 0 rfl) ?_
  refine lv_iadd hx hb dX7_begun_34 ?_
  refine r_vi (y := 0) (by decide) ?_
  refine lv_iconst (v := 0) hx hb dX7_begun_35 (by decide) ?_
  refine r_iastF X h 1 rfl (vp_lit (by decide +kernel)) dX7_begun_36 (fun f_4 H locs h => ?_)
  have h : ST g A s [(y_isSet, .inl (g.2 1, 30, .inl f_3)), (y_setMany, .inl (g.2 1, 30, .inl f_4)), (y_setFrom, .inl (g.2 1, 30, .inl (fun _ => 0))), (y_setUsed, .inl (g.2 1, 3, .inl (fun _ => 0))), (y_then, .inl (g.2 1, 156, .inl (fun _ => 0))), (y_variables, .inl (g.2 1, 52, .inl (fun _ => 0))), (y_atStop, .inl (g.2 1, 3, .inl (fun _ => 0))), (y_isFresh, .inl (g.2 1, 3, .inl (fun _ => 0))), (y, .inr (7, [.ref y_refused, .ref y_document, .int i_bytes, .int 0, .ref y_variables, .int 0, .ref y_nodes, .ref y_node, .ref y_master, .ref y_isSet, .ref y_setMany, .ref y_setFrom, .ref y_setUsed, .ref y_setText, .ref y_atStop, .ref y_isFresh, .ref y_then, .ref y_choiceMany, .ref y_choiceFrom, .ref y_choiceLong, .ref y_choiceBytes, .int i_ahead, .ref y_text, .int i_length, .int i_readAt, .int i_isFaulty, .int i_occurrences, .ref y_open, .int i_deep, .ref y_shown, .int i_many, .int i_isTooMuch, .ref y_nextNode, .ref y_endNode, .ref y_made, .ref y_beganAt, .ref y_ofNode, .ref y_isOwn, .int i_levels, .ref y_begin, .ref y_size, .ref y_holding, .int i_states, .ref y_kept, .int i_keptAt])), (y_nodes, .inl (g.2 1, 4, .inl fn)), (y_master, .inl (g.2 1, 40, .inl f_1))] H locs := h
  refine lv_aload_n hx hb dX7_begun_37 rfl (lv_at hl 1 rfl) ?_
  refine r_get X h kl7 8 11 rfl (by decide) lk_X7_34 rfl dX7_begun_38 ?_
  refine lv_bipush (v := 10) hx hb dX7_begun_41 (by decide) ?_
  refine lv_iload_n hx hb dX7_begun_43 rfl (lv_at hl 2 rfl) ?_
  refine lv_imul hx hb dX7_begun_44 ?_
  refine r_vi (y := 0) (by decide) ?_
  refine lv_iload_n hx hb dX7_begun_45 rfl (lv_at hl 0 rfl) ?_
  refine lv_iadd hx hb dX7_begun_46 ?_
  refine r_vi (y := 0) (by decide) ?_
  refine lv_iconst (v := 0) hx hb dX7_begun_47 (by decide) ?_
  refine r_iastF X h 2 rfl (vp_lit (by decide +kernel)) dX7_begun_48 (fun f_5 H locs h => ?_)
  have h : ST g A s [(y_isSet, .inl (g.2 1, 30, .inl f_3)), (y_setMany, .inl (g.2 1, 30, .inl f_4)), (y_setFrom, .inl (g.2 1, 30, .inl f_5)), (y_setUsed, .inl (g.2 1, 3, .inl (fun _ => 0))), (y_then, .inl (g.2 1, 156, .inl (fun _ => 0))), (y_variables, .inl (g.2 1, 52, .inl (fun _ => 0))), (y_atStop, .inl (g.2 1, 3, .inl (fun _ => 0))), (y_isFresh, .inl (g.2 1, 3, .inl (fun _ => 0))), (y, .inr (7, [.ref y_refused, .ref y_document, .int i_bytes, .int 0, .ref y_variables, .int 0, .ref y_nodes, .ref y_node, .ref y_master, .ref y_isSet, .ref y_setMany, .ref y_setFrom, .ref y_setUsed, .ref y_setText, .ref y_atStop, .ref y_isFresh, .ref y_then, .ref y_choiceMany, .ref y_choiceFrom, .ref y_choiceLong, .ref y_choiceBytes, .int i_ahead, .ref y_text, .int i_length, .int i_readAt, .int i_isFaulty, .int i_occurrences, .ref y_open, .int i_deep, .ref y_shown, .int i_many, .int i_isTooMuch, .ref y_nextNode, .ref y_endNode, .ref y_made, .ref y_beganAt, .ref y_ofNode, .ref y_isOwn, .int i_levels, .ref y_begin, .ref y_size, .ref y_holding, .int i_states, .ref y_kept, .int i_keptAt])), (y_nodes, .inl (g.2 1, 4, .inl fn)), (y_master, .inl (g.2 1, 40, .inl f_1))] H locs := h
  refine lv_iinc (v := 1) (lv' := [(2, .int 1), (0, .ref y), (1, .int 0)]) hx hb dX7_begun_49 hl (k := 0) rfl (by decide) (by decide) rfl (fun ls hl => ?_)
  refine lv_goto (tgt := 7) hx hb dX7_begun_52 (by decide) ?_
  refine lv_iload_n hx hb dX7_begun_7 rfl (lv_at hl 0 rfl) ?_
  refine lv_bipush (v := 10) hx hb dX7_begun_8 (by decide) ?_
  refine lv_icmp_ge (tgt := 55) hx hb dX7_begun_10 (by decide) (fun c_6 => absurd c_6 (by decide)) (fun c_6 => ?_)
  refine lv_aload_n hx hb dX7_begun_13 rfl (lv_at hl 1 rfl) ?_
  refine r_get X h kl7 8 9 rfl (by decide) lk_X7_28 rfl dX7_begun_14 ?_
  refine lv_bipush (v := 10) hx hb dX7_begun_17 (by decide) ?_
  refine lv_iload_n hx hb dX7_begun_19 rfl (lv_at hl 2 rfl) ?_
  refine lv_imul hx hb dX7_begun_20 ?_
  refine r_vi (y := 0) (by decide) ?_
  refine lv_iload_n hx hb dX7_begun_21 rfl (lv_at hl 0 rfl) ?_
  refine lv_iadd hx hb dX7_begun_22 ?_
  refine r_vi (y := 1) (by decide) ?_
  refine lv_iconst (v := 0) hx hb dX7_begun_23 (by decide) ?_
  refine r_iastF X h 0 rfl (vp_lit (by decide +kernel)) dX7_begun_24 (fun f_7 H locs h => ?_)
  have h : ST g A s [(y_isSet, .inl (g.2 1, 30, .inl f_7)), (y_setMany, .inl (g.2 1, 30, .inl f_4)), (y_setFrom, .inl (g.2 1, 30, .inl f_5)), (y_setUsed, .inl (g.2 1, 3, .inl (fun _ => 0))), (y_then, .inl (g.2 1, 156, .inl (fun _ => 0))), (y_variables, .inl (g.2 1, 52, .inl (fun _ => 0))), (y_atStop, .inl (g.2 1, 3, .inl (fun _ => 0))), (y_isFresh, .inl (g.2 1, 3, .inl (fun _ => 0))), (y, .inr (7, [.ref y_refused, .ref y_document, .int i_bytes, .int 0, .ref y_variables, .int 0, .ref y_nodes, .ref y_node, .ref y_master, .ref y_isSet, .ref y_setMany, .ref y_setFrom, .ref y_setUsed, .ref y_setText, .ref y_atStop, .ref y_isFresh, .ref y_then, .ref y_choiceMany, .ref y_choiceFrom, .ref y_choiceLong, .ref y_choiceBytes, .int i_ahead, .ref y_text, .int i_length, .int i_readAt, .int i_isFaulty, .int i_occurrences, .ref y_open, .int i_deep, .ref y_shown, .int i_many, .int i_isTooMuch, .ref y_nextNode, .ref y_endNode, .ref y_made, .ref y_beganAt, .ref y_ofNode, .ref y_isOwn, .int i_levels, .ref y_begin, .ref y_size, .ref y_holding, .int i_states, .ref y_kept, .int i_keptAt])), (y_nodes, .inl (g.2 1, 4, .inl fn)), (y_master, .inl (g.2 1, 40, .inl f_1))] H locs := h
  refine lv_aload_n hx hb dX7_begun_25 rfl (lv_at hl 1 rfl) ?_
  refine r_get X h kl7 8 10 rfl (by decide) lk_X7_31 rfl dX7_begun_26 ?_
  refine lv_bipush (v := 10) hx hb dX7_begun_29 (by decide) ?_
  refine lv_iload_n hx hb dX7_begun_31 rfl (lv_at hl 2 rfl) ?_
  refine lv_imul hx hb dX7_begun_32 ?_
  refine r_vi (y := 0) (by decide) ?_
  refine lv_iload_n hx hb dX7_begun_33 rfl (lv_at hl 0 rfl) ?_
  refine lv_iadd hx hb dX7_begun_34 ?_
  refine r_vi (y := 1) (by decide) ?_
  refine lv_iconst (v := 0) hx hb dX7_begun_35 (by decide) ?_
  refine r_iastF X h 1 rfl (vp_lit (by decide +kernel)) dX7_begun_36 (fun f_8 H locs h => ?_)
  have h : ST g A s [(y_isSet, .inl (g.2 1, 30, .inl f_7)), (y_setMany, .inl (g.2 1, 30, .inl f_8)), (y_setFrom, .inl (g.2 1, 30, .inl f_5)), (y_setUsed, .inl (g.2 1, 3, .inl (fun _ => 0))), (y_then, .inl (g.2 1, 156, .inl (fun _ => 0))), (y_variables, .inl (g.2 1, 52, .inl (fun _ => 0))), (y_atStop, .inl (g.2 1, 3, .inl (fun _ => 0))), (y_isFresh, .inl (g.2 1, 3, .inl (fun _ => 0))), (y, .inr (7, [.ref y_refused, .ref y_document, .int i_bytes, .int 0, .ref y_variables, .int 0, .ref y_nodes, .ref y_node, .ref y_master, .ref y_isSet, .ref y_setMany, .ref y_setFrom, .ref y_setUsed, .ref y_setText, .ref y_atStop, .ref y_isFresh, .ref y_then, .ref y_choiceMany, .ref y_choiceFrom, .ref y_choiceLong, .ref y_choiceBytes, .int i_ahead, .ref y_text, .int i_length, .int i_readAt, .int i_isFaulty, .int i_occurrences, .ref y_open, .int i_deep, .ref y_shown, .int i_many, .int i_isTooMuch, .ref y_nextNode, .ref y_endNode, .ref y_made, .ref y_beganAt, .ref y_ofNode, .ref y_isOwn, .int i_levels, .ref y_begin, .ref y_size, .ref y_holding, .int i_states, .ref y_kept, .int i_keptAt])), (y_nodes, .inl (g.2 1, 4, .inl fn)), (y_master, .inl (g.2 1, 40, .inl f_1))] H locs := h
  refine lv_aload_n hx hb dX7_begun_37 rfl (lv_at hl 1 rfl) ?_
  refine r_get X h kl7 8 11 rfl (by decide) lk_X7_34 rfl dX7_begun_38 ?_
  refine lv_bipush (v := 10) hx hb dX7_begun_41 (by decide) ?_
  refine lv_iload_n hx hb dX7_begun_43 rfl (lv_at hl 2 rfl) ?_
  refine lv_imul hx hb dX7_begun_44 ?_
  refine r_vi (y := 0) (by decide) ?_
  refine lv_iload_n hx hb dX7_begun_45 rfl (lv_at hl 0 rfl) ?_
  refine lv_iadd hx hb dX7_begun_46 ?_
  refine r_vi (y := 1) (by decide) ?_
  refine lv_iconst (v := 0) hx hb dX7_begun_47 (by decide) ?_
  refine r_iastF X h 2 rfl (vp_lit (by decide +kernel)) dX7_begun_48 (fun f_9 H locs h => ?_)
  have h : ST g A s [(y_isSet, .inl (g.2 1, 30, .inl f_7)), (y_setMany, .inl (g.2 1, 30, .inl f_8)), (y_setFrom, .inl (g.2 1, 30, .inl f_9)), (y_setUsed, .inl (g.2 1, 3, .inl (fun _ => 0))), (y_then, .inl (g.2 1, 156, .inl (fun _ => 0))), (y_variables, .inl (g.2 1, 52, .inl (fun _ => 0))), (y_atStop, .inl (g.2 1, 3, .inl (fun _ => 0))), (y_isFresh, .inl (g.2 1, 3, .inl (fun _ => 0))), (y, .inr (7, [.ref y_refused, .ref y_document, .int i_bytes, .int 0, .ref y_variables, .int 0, .ref y_nodes, .ref y_node, .ref y_master, .ref y_isSet, .ref y_setMany, .ref y_setFrom, .ref y_setUsed, .ref y_setText, .ref y_atStop, .ref y_isFresh, .ref y_then, .ref y_choiceMany, .ref y_choiceFrom, .ref y_choiceLong, .ref y_choiceBytes, .int i_ahead, .ref y_text, .int i_length, .int i_readAt, .int i_isFaulty, .int i_occurrences, .ref y_open, .int i_deep, .ref y_shown, .int i_many, .int i_isTooMuch, .ref y_nextNode, .ref y_endNode, .ref y_made, .ref y_beganAt, .ref y_ofNode, .ref y_isOwn, .int i_levels, .ref y_begin, .ref y_size, .ref y_holding, .int i_states, .ref y_kept, .int i_keptAt])), (y_nodes, .inl (g.2 1, 4, .inl fn)), (y_master, .inl (g.2 1, 40, .inl f_1))] H locs := h
  refine lv_iinc (v := 2) (lv' := [(2, .int 2), (0, .ref y), (1, .int 0)]) hx hb dX7_begun_49 hl (k := 0) rfl (by decide) (by decide) rfl (fun ls hl => ?_)
  refine lv_goto (tgt := 7) hx hb dX7_begun_52 (by decide) ?_
  refine lv_iload_n hx hb dX7_begun_7 rfl (lv_at hl 0 rfl) ?_
  refine lv_bipush (v := 10) hx hb dX7_begun_8 (by decide) ?_
  refine lv_icmp_ge (tgt := 55) hx hb dX7_begun_10 (by decide) (fun c_10 => absurd c_10 (by decide)) (fun c_10 => ?_)
  refine lv_aload_n hx hb dX7_begun_13 rfl (lv_at hl 1 rfl) ?_
  refine r_get X h kl7 8 9 rfl (by decide) lk_X7_28 rfl dX7_begun_14 ?_
  refine lv_bipush (v := 10) hx hb dX7_begun_17 (by decide) ?_
  refine lv_iload_n hx hb dX7_begun_19 rfl (lv_at hl 2 rfl) ?_
  refine lv_imul hx hb dX7_begun_20 ?_
  refine r_vi (y := 0) (by decide) ?_
  refine lv_iload_n hx hb dX7_begun_21 rfl (lv_at hl 0 rfl) ?_
  refine lv_iadd hx hb dX7_begun_22 ?_
  refine r_vi (y := 2) (by decide) ?_
  refine lv_iconst (v := 0) hx hb dX7_begun_23 (by decide) ?_
  refine r_iastF X h 0 rfl (vp_lit (by decide +kernel)) dX7_begun_24 (fun f_11 H locs h => ?_)
  have h : ST g A s [(y_isSet, .inl (g.2 1, 30, .inl f_11)), (y_setMany, .inl (g.2 1, 30, .inl f_8)), (y_setFrom, .inl (g.2 1, 30, .inl f_9)), (y_setUsed, .inl (g.2 1, 3, .inl (fun _ => 0))), (y_then, .inl (g.2 1, 156, .inl (fun _ => 0))), (y_variables, .inl (g.2 1, 52, .inl (fun _ => 0))), (y_atStop, .inl (g.2 1, 3, .inl (fun _ => 0))), (y_isFresh, .inl (g.2 1, 3, .inl (fun _ => 0))), (y, .inr (7, [.ref y_refused, .ref y_document, .int i_bytes, .int 0, .ref y_variables, .int 0, .ref y_nodes, .ref y_node, .ref y_master, .ref y_isSet, .ref y_setMany, .ref y_setFrom, .ref y_setUsed, .ref y_setText, .ref y_atStop, .ref y_isFresh, .ref y_then, .ref y_choiceMany, .ref y_choiceFrom, .ref y_choiceLong, .ref y_choiceBytes, .int i_ahead, .ref y_text, .int i_length, .int i_readAt, .int i_isFaulty, .int i_occurrences, .ref y_open, .int i_deep, .ref y_shown, .int i_many, .int i_isTooMuch, .ref y_nextNode, .ref y_endNode, .ref y_made, .ref y_beganAt, .ref y_ofNode, .ref y_isOwn, .int i_levels, .ref y_begin, .ref y_size, .ref y_holding, .int i_states, .ref y_kept, .int i_keptAt])), (y_nodes, .inl (g.2 1, 4, .inl fn)), (y_master, .inl (g.2 1, 40, .inl f_1))] H locs := h
  refine lv_aload_n hx hb dX7_begun_25 rfl (lv_at hl 1 rfl) ?_
  refine r_get X h kl7 8 10 rfl (by decide) lk_X7_31 rfl dX7_begun_26 ?_
  refine lv_bipush (v := 10) hx hb dX7_begun_29 (by decide) ?_
  refine lv_iload_n hx hb dX7_begun_31 rfl (lv_at hl 2 rfl) ?_
  refine lv_imul hx hb dX7_begun_32 ?_
  refine r_vi (y := 0) (by decide) ?_
  refine lv_iload_n hx hb dX7_begun_33 rfl (lv_at hl 0 rfl) ?_
  refine lv_iadd hx hb dX7_begun_34 ?_
  refine r_vi (y := 2) (by decide) ?_
  refine lv_iconst (v := 0) hx hb dX7_begun_35 (by decide) ?_
  refine r_iastF X h 1 rfl (vp_lit (by decide +kernel)) dX7_begun_36 (fun f_12 H locs h => ?_)
  have h : ST g A s [(y_isSet, .inl (g.2 1, 30, .inl f_11)), (y_setMany, .inl (g.2 1, 30, .inl f_12)), (y_setFrom, .inl (g.2 1, 30, .inl f_9)), (y_setUsed, .inl (g.2 1, 3, .inl (fun _ => 0))), (y_then, .inl (g.2 1, 156, .inl (fun _ => 0))), (y_variables, .inl (g.2 1, 52, .inl (fun _ => 0))), (y_atStop, .inl (g.2 1, 3, .inl (fun _ => 0))), (y_isFresh, .inl (g.2 1, 3, .inl (fun _ => 0))), (y, .inr (7, [.ref y_refused, .ref y_document, .int i_bytes, .int 0, .ref y_variables, .int 0, .ref y_nodes, .ref y_node, .ref y_master, .ref y_isSet, .ref y_setMany, .ref y_setFrom, .ref y_setUsed, .ref y_setText, .ref y_atStop, .ref y_isFresh, .ref y_then, .ref y_choiceMany, .ref y_choiceFrom, .ref y_choiceLong, .ref y_choiceBytes, .int i_ahead, .ref y_text, .int i_length, .int i_readAt, .int i_isFaulty, .int i_occurrences, .ref y_open, .int i_deep, .ref y_shown, .int i_many, .int i_isTooMuch, .ref y_nextNode, .ref y_endNode, .ref y_made, .ref y_beganAt, .ref y_ofNode, .ref y_isOwn, .int i_levels, .ref y_begin, .ref y_size, .ref y_holding, .int i_states, .ref y_kept, .int i_keptAt])), (y_nodes, .inl (g.2 1, 4, .inl fn)), (y_master, .inl (g.2 1, 40, .inl f_1))] H locs := h
  refine lv_aload_n hx hb dX7_begun_37 rfl (lv_at hl 1 rfl) ?_
  refine r_get X h kl7 8 11 rfl (by decide) lk_X7_34 rfl dX7_begun_38 ?_
  refine lv_bipush (v := 10) hx hb dX7_begun_41 (by decide) ?_
  refine lv_iload_n hx hb dX7_begun_43 rfl (lv_at hl 2 rfl) ?_
  refine lv_imul hx hb dX7_begun_44 ?_
  refine r_vi (y := 0) (by decide) ?_
  refine lv_iload_n hx hb dX7_begun_45 rfl (lv_at hl 0 rfl) ?_
  refine lv_iadd hx hb dX7_begun_46 ?_
  refine r_vi (y := 2) (by decide) ?_
  refine lv_iconst (v := 0) hx hb dX7_begun_47 (by decide) ?_
  refine r_iastF X h 2 rfl (vp_lit (by decide +kernel)) dX7_begun_48 (fun f_13 H locs h => ?_)
  have h : ST g A s [(y_isSet, .inl (g.2 1, 30, .inl f_11)), (y_setMany, .inl (g.2 1, 30, .inl f_12)), (y_setFrom, .inl (g.2 1, 30, .inl f_13)), (y_setUsed, .inl (g.2 1, 3, .inl (fun _ => 0))), (y_then, .inl (g.2 1, 156, .inl (fun _ => 0))), (y_variables, .inl (g.2 1, 52, .inl (fun _ => 0))), (y_atStop, .inl (g.2 1, 3, .inl (fun _ => 0))), (y_isFresh, .inl (g.2 1, 3, .inl (fun _ => 0))), (y, .inr (7, [.ref y_refused, .ref y_document, .int i_bytes, .int 0, .ref y_variables, .int 0, .ref y_nodes, .ref y_node, .ref y_master, .ref y_isSet, .ref y_setMany, .ref y_setFrom, .ref y_setUsed, .ref y_setText, .ref y_atStop, .ref y_isFresh, .ref y_then, .ref y_choiceMany, .ref y_choiceFrom, .ref y_choiceLong, .ref y_choiceBytes, .int i_ahead, .ref y_text, .int i_length, .int i_readAt, .int i_isFaulty, .int i_occurrences, .ref y_open, .int i_deep, .ref y_shown, .int i_many, .int i_isTooMuch, .ref y_nextNode, .ref y_endNode, .ref y_made, .ref y_beganAt, .ref y_ofNode, .ref y_isOwn, .int i_levels, .ref y_begin, .ref y_size, .ref y_holding, .int i_states, .ref y_kept, .int i_keptAt])), (y_nodes, .inl (g.2 1, 4, .inl fn)), (y_master, .inl (g.2 1, 40, .inl f_1))] H locs := h
  refine lv_iinc (v := 3) (lv' := [(2, .int 3), (0, .ref y), (1, .int 0)]) hx hb dX7_begun_49 hl (k := 0) rfl (by decide) (by decide) rfl (fun ls hl => ?_)
  refine lv_goto (tgt := 7) hx hb dX7_begun_52 (by decide) ?_
  refine lv_iload_n hx hb dX7_begun_7 rfl (lv_at hl 0 rfl) ?_
  refine lv_bipush (v := 10) hx hb dX7_begun_8 (by decide) ?_
  refine lv_icmp_ge (tgt := 55) hx hb dX7_begun_10 (by decide) (fun c_14 => absurd c_14 (by decide)) (fun c_14 => ?_)
  refine lv_aload_n hx hb dX7_begun_13 rfl (lv_at hl 1 rfl) ?_
  refine r_get X h kl7 8 9 rfl (by decide) lk_X7_28 rfl dX7_begun_14 ?_
  refine lv_bipush (v := 10) hx hb dX7_begun_17 (by decide) ?_
  refine lv_iload_n hx hb dX7_begun_19 rfl (lv_at hl 2 rfl) ?_
  refine lv_imul hx hb dX7_begun_20 ?_
  refine r_vi (y := 0) (by decide) ?_
  refine lv_iload_n hx hb dX7_begun_21 rfl (lv_at hl 0 rfl) ?_
  refine lv_iadd hx hb dX7_begun_22 ?_
  refine r_vi (y := 3) (by decide) ?_
  refine lv_iconst (v := 0) hx hb dX7_begun_23 (by decide) ?_
  refine r_iastF X h 0 rfl (vp_lit (by decide +kernel)) dX7_begun_24 (fun f_15 H locs h => ?_)
  have h : ST g A s [(y_isSet, .inl (g.2 1, 30, .inl f_15)), (y_setMany, .inl (g.2 1, 30, .inl f_12)), (y_setFrom, .inl (g.2 1, 30, .inl f_13)), (y_setUsed, .inl (g.2 1, 3, .inl (fun _ => 0))), (y_then, .inl (g.2 1, 156, .inl (fun _ => 0))), (y_variables, .inl (g.2 1, 52, .inl (fun _ => 0))), (y_atStop, .inl (g.2 1, 3, .inl (fun _ => 0))), (y_isFresh, .inl (g.2 1, 3, .inl (fun _ => 0))), (y, .inr (7, [.ref y_refused, .ref y_document, .int i_bytes, .int 0, .ref y_variables, .int 0, .ref y_nodes, .ref y_node, .ref y_master, .ref y_isSet, .ref y_setMany, .ref y_setFrom, .ref y_setUsed, .ref y_setText, .ref y_atStop, .ref y_isFresh, .ref y_then, .ref y_choiceMany, .ref y_choiceFrom, .ref y_choiceLong, .ref y_choiceBytes, .int i_ahead, .ref y_text, .int i_length, .int i_readAt, .int i_isFaulty, .int i_occurrences, .ref y_open, .int i_deep, .ref y_shown, .int i_many, .int i_isTooMuch, .ref y_nextNode, .ref y_endNode, .ref y_made, .ref y_beganAt, .ref y_ofNode, .ref y_isOwn, .int i_levels, .ref y_begin, .ref y_size, .ref y_holding, .int i_states, .ref y_kept, .int i_keptAt])), (y_nodes, .inl (g.2 1, 4, .inl fn)), (y_master, .inl (g.2 1, 40, .inl f_1))] H locs := h
  refine lv_aload_n hx hb dX7_begun_25 rfl (lv_at hl 1 rfl) ?_
  refine r_get X h kl7 8 10 rfl (by decide) lk_X7_31 rfl dX7_begun_26 ?_
  refine lv_bipush (v := 10) hx hb dX7_begun_29 (by decide) ?_
  refine lv_iload_n hx hb dX7_begun_31 rfl (lv_at hl 2 rfl) ?_
  refine lv_imul hx hb dX7_begun_32 ?_
  refine r_vi (y := 0) (by decide) ?_
  refine lv_iload_n hx hb dX7_begun_33 rfl (lv_at hl 0 rfl) ?_
  refine lv_iadd hx hb dX7_begun_34 ?_
  refine r_vi (y := 3) (by decide) ?_
  refine lv_iconst (v := 0) hx hb dX7_begun_35 (by decide) ?_
  refine r_iastF X h 1 rfl (vp_lit (by decide +kernel)) dX7_begun_36 (fun f_16 H locs h => ?_)
  have h : ST g A s [(y_isSet, .inl (g.2 1, 30, .inl f_15)), (y_setMany, .inl (g.2 1, 30, .inl f_16)), (y_setFrom, .inl (g.2 1, 30, .inl f_13)), (y_setUsed, .inl (g.2 1, 3, .inl (fun _ => 0))), (y_then, .inl (g.2 1, 156, .inl (fun _ => 0))), (y_variables, .inl (g.2 1, 52, .inl (fun _ => 0))), (y_atStop, .inl (g.2 1, 3, .inl (fun _ => 0))), (y_isFresh, .inl (g.2 1, 3, .inl (fun _ => 0))), (y, .inr (7, [.ref y_refused, .ref y_document, .int i_bytes, .int 0, .ref y_variables, .int 0, .ref y_nodes, .ref y_node, .ref y_master, .ref y_isSet, .ref y_setMany, .ref y_setFrom, .ref y_setUsed, .ref y_setText, .ref y_atStop, .ref y_isFresh, .ref y_then, .ref y_choiceMany, .ref y_choiceFrom, .ref y_choiceLong, .ref y_choiceBytes, .int i_ahead, .ref y_text, .int i_length, .int i_readAt, .int i_isFaulty, .int i_occurrences, .ref y_open, .int i_deep, .ref y_shown, .int i_many, .int i_isTooMuch, .ref y_nextNode, .ref y_endNode, .ref y_made, .ref y_beganAt, .ref y_ofNode, .ref y_isOwn, .int i_levels, .ref y_begin, .ref y_size, .ref y_holding, .int i_states, .ref y_kept, .int i_keptAt])), (y_nodes, .inl (g.2 1, 4, .inl fn)), (y_master, .inl (g.2 1, 40, .inl f_1))] H locs := h
  refine lv_aload_n hx hb dX7_begun_37 rfl (lv_at hl 1 rfl) ?_
  refine r_get X h kl7 8 11 rfl (by decide) lk_X7_34 rfl dX7_begun_38 ?_
  refine lv_bipush (v := 10) hx hb dX7_begun_41 (by decide) ?_
  refine lv_iload_n hx hb dX7_begun_43 rfl (lv_at hl 2 rfl) ?_
  refine lv_imul hx hb dX7_begun_44 ?_
  refine r_vi (y := 0) (by decide) ?_
  refine lv_iload_n hx hb dX7_begun_45 rfl (lv_at hl 0 rfl) ?_
  refine lv_iadd hx hb dX7_begun_46 ?_
  refine r_vi (y := 3) (by decide) ?_
  refine lv_iconst (v := 0) hx hb dX7_begun_47 (by decide) ?_
  refine r_iastF X h 2 rfl (vp_lit (by decide +kernel)) dX7_begun_48 (fun f_17 H locs h => ?_)
  have h : ST g A s [(y_isSet, .inl (g.2 1, 30, .inl f_15)), (y_setMany, .inl (g.2 1, 30, .inl f_16)), (y_setFrom, .inl (g.2 1, 30, .inl f_17)), (y_setUsed, .inl (g.2 1, 3, .inl (fun _ => 0))), (y_then, .inl (g.2 1, 156, .inl (fun _ => 0))), (y_variables, .inl (g.2 1, 52, .inl (fun _ => 0))), (y_atStop, .inl (g.2 1, 3, .inl (fun _ => 0))), (y_isFresh, .inl (g.2 1, 3, .inl (fun _ => 0))), (y, .inr (7, [.ref y_refused, .ref y_document, .int i_bytes, .int 0, .ref y_variables, .int 0, .ref y_nodes, .ref y_node, .ref y_master, .ref y_isSet, .ref y_setMany, .ref y_setFrom, .ref y_setUsed, .ref y_setText, .ref y_atStop, .ref y_isFresh, .ref y_then, .ref y_choiceMany, .ref y_choiceFrom, .ref y_choiceLong, .ref y_choiceBytes, .int i_ahead, .ref y_text, .int i_length, .int i_readAt, .int i_isFaulty, .int i_occurrences, .ref y_open, .int i_deep, .ref y_shown, .int i_many, .int i_isTooMuch, .ref y_nextNode, .ref y_endNode, .ref y_made, .ref y_beganAt, .ref y_ofNode, .ref y_isOwn, .int i_levels, .ref y_begin, .ref y_size, .ref y_holding, .int i_states, .ref y_kept, .int i_keptAt])), (y_nodes, .inl (g.2 1, 4, .inl fn)), (y_master, .inl (g.2 1, 40, .inl f_1))] H locs := h
  refine lv_iinc (v := 4) (lv' := [(2, .int 4), (0, .ref y), (1, .int 0)]) hx hb dX7_begun_49 hl (k := 0) rfl (by decide) (by decide) rfl (fun ls hl => ?_)
  refine lv_goto (tgt := 7) hx hb dX7_begun_52 (by decide) ?_
  refine lv_iload_n hx hb dX7_begun_7 rfl (lv_at hl 0 rfl) ?_
  refine lv_bipush (v := 10) hx hb dX7_begun_8 (by decide) ?_
  refine lv_icmp_ge (tgt := 55) hx hb dX7_begun_10 (by decide) (fun c_18 => absurd c_18 (by decide)) (fun c_18 => ?_)
  refine lv_aload_n hx hb dX7_begun_13 rfl (lv_at hl 1 rfl) ?_
  refine r_get X h kl7 8 9 rfl (by decide) lk_X7_28 rfl dX7_begun_14 ?_
  refine lv_bipush (v := 10) hx hb dX7_begun_17 (by decide) ?_
  refine lv_iload_n hx hb dX7_begun_19 rfl (lv_at hl 2 rfl) ?_
  refine lv_imul hx hb dX7_begun_20 ?_
  refine r_vi (y := 0) (by decide) ?_
  refine lv_iload_n hx hb dX7_begun_21 rfl (lv_at hl 0 rfl) ?_
  refine lv_iadd hx hb dX7_begun_22 ?_
  refine r_vi (y := 4) (by decide) ?_
  refine lv_iconst (v := 0) hx hb dX7_begun_23 (by decide) ?_
  refine r_iastF X h 0 rfl (vp_lit (by decide +kernel)) dX7_begun_24 (fun f_19 H locs h => ?_)
  have h : ST g A s [(y_isSet, .inl (g.2 1, 30, .inl f_19)), (y_setMany, .inl (g.2 1, 30, .inl f_16)), (y_setFrom, .inl (g.2 1, 30, .inl f_17)), (y_setUsed, .inl (g.2 1, 3, .inl (fun _ => 0))), (y_then, .inl (g.2 1, 156, .inl (fun _ => 0))), (y_variables, .inl (g.2 1, 52, .inl (fun _ => 0))), (y_atStop, .inl (g.2 1, 3, .inl (fun _ => 0))), (y_isFresh, .inl (g.2 1, 3, .inl (fun _ => 0))), (y, .inr (7, [.ref y_refused, .ref y_document, .int i_bytes, .int 0, .ref y_variables, .int 0, .ref y_nodes, .ref y_node, .ref y_master, .ref y_isSet, .ref y_setMany, .ref y_setFrom, .ref y_setUsed, .ref y_setText, .ref y_atStop, .ref y_isFresh, .ref y_then, .ref y_choiceMany, .ref y_choiceFrom, .ref y_choiceLong, .ref y_choiceBytes, .int i_ahead, .ref y_text, .int i_length, .int i_readAt, .int i_isFaulty, .int i_occurrences, .ref y_open, .int i_deep, .ref y_shown, .int i_many, .int i_isTooMuch, .ref y_nextNode, .ref y_endNode, .ref y_made, .ref y_beganAt, .ref y_ofNode, .ref y_isOwn, .int i_levels, .ref y_begin, .ref y_size, .ref y_holding, .int i_states, .ref y_kept, .int i_keptAt])), (y_nodes, .inl (g.2 1, 4, .inl fn)), (y_master, .inl (g.2 1, 40, .inl f_1))] H locs := h
  refine lv_aload_n hx hb dX7_begun_25 rfl (lv_at hl 1 rfl) ?_
  refine r_get X h kl7 8 10 rfl (by decide) lk_X7_31 rfl dX7_begun_26 ?_
  refine lv_bipush (v := 10) hx hb dX7_begun_29 (by decide) ?_
  refine lv_iload_n hx hb dX7_begun_31 rfl (lv_at hl 2 rfl) ?_
  refine lv_imul hx hb dX7_begun_32 ?_
  refine r_vi (y := 0) (by decide) ?_
  refine lv_iload_n hx hb dX7_begun_33 rfl (lv_at hl 0 rfl) ?_
  refine lv_iadd hx hb dX7_begun_34 ?_
  refine r_vi (y := 4) (by decide) ?_
  refine lv_iconst (v := 0) hx hb dX7_begun_35 (by decide) ?_
  refine r_iastF X h 1 rfl (vp_lit (by decide +kernel)) dX7_begun_36 (fun f_20 H locs h => ?_)
  have h : ST g A s [(y_isSet, .inl (g.2 1, 30, .inl f_19)), (y_setMany, .inl (g.2 1, 30, .inl f_20)), (y_setFrom, .inl (g.2 1, 30, .inl f_17)), (y_setUsed, .inl (g.2 1, 3, .inl (fun _ => 0))), (y_then, .inl (g.2 1, 156, .inl (fun _ => 0))), (y_variables, .inl (g.2 1, 52, .inl (fun _ => 0))), (y_atStop, .inl (g.2 1, 3, .inl (fun _ => 0))), (y_isFresh, .inl (g.2 1, 3, .inl (fun _ => 0))), (y, .inr (7, [.ref y_refused, .ref y_document, .int i_bytes, .int 0, .ref y_variables, .int 0, .ref y_nodes, .ref y_node, .ref y_master, .ref y_isSet, .ref y_setMany, .ref y_setFrom, .ref y_setUsed, .ref y_setText, .ref y_atStop, .ref y_isFresh, .ref y_then, .ref y_choiceMany, .ref y_choiceFrom, .ref y_choiceLong, .ref y_choiceBytes, .int i_ahead, .ref y_text, .int i_length, .int i_readAt, .int i_isFaulty, .int i_occurrences, .ref y_open, .int i_deep, .ref y_shown, .int i_many, .int i_isTooMuch, .ref y_nextNode, .ref y_endNode, .ref y_made, .ref y_beganAt, .ref y_ofNode, .ref y_isOwn, .int i_levels, .ref y_begin, .ref y_size, .ref y_holding, .int i_states, .ref y_kept, .int i_keptAt])), (y_nodes, .inl (g.2 1, 4, .inl fn)), (y_master, .inl (g.2 1, 40, .inl f_1))] H locs := h
  refine lv_aload_n hx hb dX7_begun_37 rfl (lv_at hl 1 rfl) ?_
  refine r_get X h kl7 8 11 rfl (by decide) lk_X7_34 rfl dX7_begun_38 ?_
  refine lv_bipush (v := 10) hx hb dX7_begun_41 (by decide) ?_
  refine lv_iload_n hx hb dX7_begun_43 rfl (lv_at hl 2 rfl) ?_
  refine lv_imul hx hb dX7_begun_44 ?_
  refine r_vi (y := 0) (by decide) ?_
  refine lv_iload_n hx hb dX7_begun_45 rfl (lv_at hl 0 rfl) ?_
  refine lv_iadd hx hb dX7_begun_46 ?_
  refine r_vi (y := 4) (by decide) ?_
  refine lv_iconst (v := 0) hx hb dX7_begun_47 (by decide) ?_
  refine r_iastF X h 2 rfl (vp_lit (by decide +kernel)) dX7_begun_48 (fun f_21 H locs h => ?_)
  have h : ST g A s [(y_isSet, .inl (g.2 1, 30, .inl f_19)), (y_setMany, .inl (g.2 1, 30, .inl f_20)), (y_setFrom, .inl (g.2 1, 30, .inl f_21)), (y_setUsed, .inl (g.2 1, 3, .inl (fun _ => 0))), (y_then, .inl (g.2 1, 156, .inl (fun _ => 0))), (y_variables, .inl (g.2 1, 52, .inl (fun _ => 0))), (y_atStop, .inl (g.2 1, 3, .inl (fun _ => 0))), (y_isFresh, .inl (g.2 1, 3, .inl (fun _ => 0))), (y, .inr (7, [.ref y_refused, .ref y_document, .int i_bytes, .int 0, .ref y_variables, .int 0, .ref y_nodes, .ref y_node, .ref y_master, .ref y_isSet, .ref y_setMany, .ref y_setFrom, .ref y_setUsed, .ref y_setText, .ref y_atStop, .ref y_isFresh, .ref y_then, .ref y_choiceMany, .ref y_choiceFrom, .ref y_choiceLong, .ref y_choiceBytes, .int i_ahead, .ref y_text, .int i_length, .int i_readAt, .int i_isFaulty, .int i_occurrences, .ref y_open, .int i_deep, .ref y_shown, .int i_many, .int i_isTooMuch, .ref y_nextNode, .ref y_endNode, .ref y_made, .ref y_beganAt, .ref y_ofNode, .ref y_isOwn, .int i_levels, .ref y_begin, .ref y_size, .ref y_holding, .int i_states, .ref y_kept, .int i_keptAt])), (y_nodes, .inl (g.2 1, 4, .inl fn)), (y_master, .inl (g.2 1, 40, .inl f_1))] H locs := h
  refine lv_iinc (v := 5) (lv' := [(2, .int 5), (0, .ref y), (1, .int 0)]) hx hb dX7_begun_49 hl (k := 0) rfl (by decide) (by decide) rfl (fun ls hl => ?_)
  refine lv_goto (tgt := 7) hx hb dX7_begun_52 (by decide) ?_
  refine lv_iload_n hx hb dX7_begun_7 rfl (lv_at hl 0 rfl) ?_
  refine lv_bipush (v := 10) hx hb dX7_begun_8 (by decide) ?_
  refine lv_icmp_ge (tgt := 55) hx hb dX7_begun_10 (by decide) (fun c_22 => absurd c_22 (by decide)) (fun c_22 => ?_)
  refine lv_aload_n hx hb dX7_begun_13 rfl (lv_at hl 1 rfl) ?_
  refine r_get X h kl7 8 9 rfl (by decide) lk_X7_28 rfl dX7_begun_14 ?_
  refine lv_bipush (v := 10) hx hb dX7_begun_17 (by decide) ?_
  refine lv_iload_n hx hb dX7_begun_19 rfl (lv_at hl 2 rfl) ?_
  refine lv_imul hx hb dX7_begun_20 ?_
  refine r_vi (y := 0) (by decide) ?_
  refine lv_iload_n hx hb dX7_begun_21 rfl (lv_at hl 0 rfl) ?_
  refine lv_iadd hx hb dX7_begun_22 ?_
  refine r_vi (y := 5) (by decide) ?_
  refine lv_iconst (v := 0) hx hb dX7_begun_23 (by decide) ?_
  refine r_iastF X h 0 rfl (vp_lit (by decide +kernel)) dX7_begun_24 (fun f_23 H locs h => ?_)
  have h : ST g A s [(y_isSet, .inl (g.2 1, 30, .inl f_23)), (y_setMany, .inl (g.2 1, 30, .inl f_20)), (y_setFrom, .inl (g.2 1, 30, .inl f_21)), (y_setUsed, .inl (g.2 1, 3, .inl (fun _ => 0))), (y_then, .inl (g.2 1, 156, .inl (fun _ => 0))), (y_variables, .inl (g.2 1, 52, .inl (fun _ => 0))), (y_atStop, .inl (g.2 1, 3, .inl (fun _ => 0))), (y_isFresh, .inl (g.2 1, 3, .inl (fun _ => 0))), (y, .inr (7, [.ref y_refused, .ref y_document, .int i_bytes, .int 0, .ref y_variables, .int 0, .ref y_nodes, .ref y_node, .ref y_master, .ref y_isSet, .ref y_setMany, .ref y_setFrom, .ref y_setUsed, .ref y_setText, .ref y_atStop, .ref y_isFresh, .ref y_then, .ref y_choiceMany, .ref y_choiceFrom, .ref y_choiceLong, .ref y_choiceBytes, .int i_ahead, .ref y_text, .int i_length, .int i_readAt, .int i_isFaulty, .int i_occurrences, .ref y_open, .int i_deep, .ref y_shown, .int i_many, .int i_isTooMuch, .ref y_nextNode, .ref y_endNode, .ref y_made, .ref y_beganAt, .ref y_ofNode, .ref y_isOwn, .int i_levels, .ref y_begin, .ref y_size, .ref y_holding, .int i_states, .ref y_kept, .int i_keptAt])), (y_nodes, .inl (g.2 1, 4, .inl fn)), (y_master, .inl (g.2 1, 40, .inl f_1))] H locs := h
  refine lv_aload_n hx hb dX7_begun_25 rfl (lv_at hl 1 rfl) ?_
  refine r_get X h kl7 8 10 rfl (by decide) lk_X7_31 rfl dX7_begun_26 ?_
  refine lv_bipush (v := 10) hx hb dX7_begun_29 (by decide) ?_
  refine lv_iload_n hx hb dX7_begun_31 rfl (lv_at hl 2 rfl) ?_
  refine lv_imul hx hb dX7_begun_32 ?_
  refine r_vi (y := 0) (by decide) ?_
  refine lv_iload_n hx hb dX7_begun_33 rfl (lv_at hl 0 rfl) ?_
  refine lv_iadd hx hb dX7_begun_34 ?_
  refine r_vi (y := 5) (by decide) ?_
  refine lv_iconst (v := 0) hx hb dX7_begun_35 (by decide) ?_
  refine r_iastF X h 1 rfl (vp_lit (by decide +kernel)) dX7_begun_36 (fun f_24 H locs h => ?_)
  have h : ST g A s [(y_isSet, .inl (g.2 1, 30, .inl f_23)), (y_setMany, .inl (g.2 1, 30, .inl f_24)), (y_setFrom, .inl (g.2 1, 30, .inl f_21)), (y_setUsed, .inl (g.2 1, 3, .inl (fun _ => 0))), (y_then, .inl (g.2 1, 156, .inl (fun _ => 0))), (y_variables, .inl (g.2 1, 52, .inl (fun _ => 0))), (y_atStop, .inl (g.2 1, 3, .inl (fun _ => 0))), (y_isFresh, .inl (g.2 1, 3, .inl (fun _ => 0))), (y, .inr (7, [.ref y_refused, .ref y_document, .int i_bytes, .int 0, .ref y_variables, .int 0, .ref y_nodes, .ref y_node, .ref y_master, .ref y_isSet, .ref y_setMany, .ref y_setFrom, .ref y_setUsed, .ref y_setText, .ref y_atStop, .ref y_isFresh, .ref y_then, .ref y_choiceMany, .ref y_choiceFrom, .ref y_choiceLong, .ref y_choiceBytes, .int i_ahead, .ref y_text, .int i_length, .int i_readAt, .int i_isFaulty, .int i_occurrences, .ref y_open, .int i_deep, .ref y_shown, .int i_many, .int i_isTooMuch, .ref y_nextNode, .ref y_endNode, .ref y_made, .ref y_beganAt, .ref y_ofNode, .ref y_isOwn, .int i_levels, .ref y_begin, .ref y_size, .ref y_holding, .int i_states, .ref y_kept, .int i_keptAt])), (y_nodes, .inl (g.2 1, 4, .inl fn)), (y_master, .inl (g.2 1, 40, .inl f_1))] H locs := h
  refine lv_aload_n hx hb dX7_begun_37 rfl (lv_at hl 1 rfl) ?_
  refine r_get X h kl7 8 11 rfl (by decide) lk_X7_34 rfl dX7_begun_38 ?_
  refine lv_bipush (v := 10) hx hb dX7_begun_41 (by decide) ?_
  refine lv_iload_n hx hb dX7_begun_43 rfl (lv_at hl 2 rfl) ?_
  refine lv_imul hx hb dX7_begun_44 ?_
  refine r_vi (y := 0) (by decide) ?_
  refine lv_iload_n hx hb dX7_begun_45 rfl (lv_at hl 0 rfl) ?_
  refine lv_iadd hx hb dX7_begun_46 ?_
  refine r_vi (y := 5) (by decide) ?_
  refine lv_iconst (v := 0) hx hb dX7_begun_47 (by decide) ?_
  refine r_iastF X h 2 rfl (vp_lit (by decide +kernel)) dX7_begun_48 (fun f_25 H locs h => ?_)
  have h : ST g A s [(y_isSet, .inl (g.2 1, 30, .inl f_23)), (y_setMany, .inl (g.2 1, 30, .inl f_24)), (y_setFrom, .inl (g.2 1, 30, .inl f_25)), (y_setUsed, .inl (g.2 1, 3, .inl (fun _ => 0))), (y_then, .inl (g.2 1, 156, .inl (fun _ => 0))), (y_variables, .inl (g.2 1, 52, .inl (fun _ => 0))), (y_atStop, .inl (g.2 1, 3, .inl (fun _ => 0))), (y_isFresh, .inl (g.2 1, 3, .inl (fun _ => 0))), (y, .inr (7, [.ref y_refused, .ref y_document, .int i_bytes, .int 0, .ref y_variables, .int 0, .ref y_nodes, .ref y_node, .ref y_master, .ref y_isSet, .ref y_setMany, .ref y_setFrom, .ref y_setUsed, .ref y_setText, .ref y_atStop, .ref y_isFresh, .ref y_then, .ref y_choiceMany, .ref y_choiceFrom, .ref y_choiceLong, .ref y_choiceBytes, .int i_ahead, .ref y_text, .int i_length, .int i_readAt, .int i_isFaulty, .int i_occurrences, .ref y_open, .int i_deep, .ref y_shown, .int i_many, .int i_isTooMuch, .ref y_nextNode, .ref y_endNode, .ref y_made, .ref y_beganAt, .ref y_ofNode, .ref y_isOwn, .int i_levels, .ref y_begin, .ref y_size, .ref y_holding, .int i_states, .ref y_kept, .int i_keptAt])), (y_nodes, .inl (g.2 1, 4, .inl fn)), (y_master, .inl (g.2 1, 40, .inl f_1))] H locs := h
  refine lv_iinc (v := 6) (lv' := [(2, .int 6), (0, .ref y), (1, .int 0)]) hx hb dX7_begun_49 hl (k := 0) rfl (by decide) (by decide) rfl (fun ls hl => ?_)
  refine lv_goto (tgt := 7) hx hb dX7_begun_52 (by decide) ?_
  refine lv_iload_n hx hb dX7_begun_7 rfl (lv_at hl 0 rfl) ?_
  refine lv_bipush (v := 10) hx hb dX7_begun_8 (by decide) ?_
  refine lv_icmp_ge (tgt := 55) hx hb dX7_begun_10 (by decide) (fun c_26 => absurd c_26 (by decide)) (fun c_26 => ?_)
  refine lv_aload_n hx hb dX7_begun_13 rfl (lv_at hl 1 rfl) ?_
  refine r_get X h kl7 8 9 rfl (by decide) lk_X7_28 rfl dX7_begun_14 ?_
  refine lv_bipush (v := 10) hx hb dX7_begun_17 (by decide) ?_
  refine lv_iload_n hx hb dX7_begun_19 rfl (lv_at hl 2 rfl) ?_
  refine lv_imul hx hb dX7_begun_20 ?_
  refine r_vi (y := 0) (by decide) ?_
  refine lv_iload_n hx hb dX7_begun_21 rfl (lv_at hl 0 rfl) ?_
  refine lv_iadd hx hb dX7_begun_22 ?_
  refine r_vi (y := 6) (by decide) ?_
  refine lv_iconst (v := 0) hx hb dX7_begun_23 (by decide) ?_
  refine r_iastF X h 0 rfl (vp_lit (by decide +kernel)) dX7_begun_24 (fun f_27 H locs h => ?_)
  have h : ST g A s [(y_isSet, .inl (g.2 1, 30, .inl f_27)), (y_setMany, .inl (g.2 1, 30, .inl f_24)), (y_setFrom, .inl (g.2 1, 30, .inl f_25)), (y_setUsed, .inl (g.2 1, 3, .inl (fun _ => 0))), (y_then, .inl (g.2 1, 156, .inl (fun _ => 0))), (y_variables, .inl (g.2 1, 52, .inl (fun _ => 0))), (y_atStop, .inl (g.2 1, 3, .inl (fun _ => 0))), (y_isFresh, .inl (g.2 1, 3, .inl (fun _ => 0))), (y, .inr (7, [.ref y_refused, .ref y_document, .int i_bytes, .int 0, .ref y_variables, .int 0, .ref y_nodes, .ref y_node, .ref y_master, .ref y_isSet, .ref y_setMany, .ref y_setFrom, .ref y_setUsed, .ref y_setText, .ref y_atStop, .ref y_isFresh, .ref y_then, .ref y_choiceMany, .ref y_choiceFrom, .ref y_choiceLong, .ref y_choiceBytes, .int i_ahead, .ref y_text, .int i_length, .int i_readAt, .int i_isFaulty, .int i_occurrences, .ref y_open, .int i_deep, .ref y_shown, .int i_many, .int i_isTooMuch, .ref y_nextNode, .ref y_endNode, .ref y_made, .ref y_beganAt, .ref y_ofNode, .ref y_isOwn, .int i_levels, .ref y_begin, .ref y_size, .ref y_holding, .int i_states, .ref y_kept, .int i_keptAt])), (y_nodes, .inl (g.2 1, 4, .inl fn)), (y_master, .inl (g.2 1, 40, .inl f_1))] H locs := h
  refine lv_aload_n hx hb dX7_begun_25 rfl (lv_at hl 1 rfl) ?_
  refine r_get X h kl7 8 10 rfl (by decide) lk_X7_31 rfl dX7_begun_26 ?_
  refine lv_bipush (v := 10) hx hb dX7_begun_29 (by decide) ?_
  refine lv_iload_n hx hb dX7_begun_31 rfl (lv_at hl 2 rfl) ?_
  refine lv_imul hx hb dX7_begun_32 ?_
  refine r_vi (y := 0) (by decide) ?_
  refine lv_iload_n hx hb dX7_begun_33 rfl (lv_at hl 0 rfl) ?_
  refine lv_iadd hx hb dX7_begun_34 ?_
  refine r_vi (y := 6) (by decide) ?_
  refine lv_iconst (v := 0) hx hb dX7_begun_35 (by decide) ?_
  refine r_iastF X h 1 rfl (vp_lit (by decide +kernel)) dX7_begun_36 (fun f_28 H locs h => ?_)
  have h : ST g A s [(y_isSet, .inl (g.2 1, 30, .inl f_27)), (y_setMany, .inl (g.2 1, 30, .inl f_28)), (y_setFrom, .inl (g.2 1, 30, .inl f_25)), (y_setUsed, .inl (g.2 1, 3, .inl (fun _ => 0))), (y_then, .inl (g.2 1, 156, .inl (fun _ => 0))), (y_variables, .inl (g.2 1, 52, .inl (fun _ => 0))), (y_atStop, .inl (g.2 1, 3, .inl (fun _ => 0))), (y_isFresh, .inl (g.2 1, 3, .inl (fun _ => 0))), (y, .inr (7, [.ref y_refused, .ref y_document, .int i_bytes, .int 0, .ref y_variables, .int 0, .ref y_nodes, .ref y_node, .ref y_master, .ref y_isSet, .ref y_setMany, .ref y_setFrom, .ref y_setUsed, .ref y_setText, .ref y_atStop, .ref y_isFresh, .ref y_then, .ref y_choiceMany, .ref y_choiceFrom, .ref y_choiceLong, .ref y_choiceBytes, .int i_ahead, .ref y_text, .int i_length, .int i_readAt, .int i_isFaulty, .int i_occurrences, .ref y_open, .int i_deep, .ref y_shown, .int i_many, .int i_isTooMuch, .ref y_nextNode, .ref y_endNode, .ref y_made, .ref y_beganAt, .ref y_ofNode, .ref y_isOwn, .int i_levels, .ref y_begin, .ref y_size, .ref y_holding, .int i_states, .ref y_kept, .int i_keptAt])), (y_nodes, .inl (g.2 1, 4, .inl fn)), (y_master, .inl (g.2 1, 40, .inl f_1))] H locs := h
  refine lv_aload_n hx hb dX7_begun_37 rfl (lv_at hl 1 rfl) ?_
  refine r_get X h kl7 8 11 rfl (by decide) lk_X7_34 rfl dX7_begun_38 ?_
  refine lv_bipush (v := 10) hx hb dX7_begun_41 (by decide) ?_
  refine lv_iload_n hx hb dX7_begun_43 rfl (lv_at hl 2 rfl) ?_
  refine lv_imul hx hb dX7_begun_44 ?_
  refine r_vi (y := 0) (by decide) ?_
  refine lv_iload_n hx hb dX7_begun_45 rfl (lv_at hl 0 rfl) ?_
  refine lv_iadd hx hb dX7_begun_46 ?_
  refine r_vi (y := 6) (by decide) ?_
  refine lv_iconst (v := 0) hx hb dX7_begun_47 (by decide) ?_
  refine r_iastF X h 2 rfl (vp_lit (by decide +kernel)) dX7_begun_48 (fun f_29 H locs h => ?_)
  have h : ST g A s [(y_isSet, .inl (g.2 1, 30, .inl f_27)), (y_setMany, .inl (g.2 1, 30, .inl f_28)), (y_setFrom, .inl (g.2 1, 30, .inl f_29)), (y_setUsed, .inl (g.2 1, 3, .inl (fun _ => 0))), (y_then, .inl (g.2 1, 156, .inl (fun _ => 0))), (y_variables, .inl (g.2 1, 52, .inl (fun _ => 0))), (y_atStop, .inl (g.2 1, 3, .inl (fun _ => 0))), (y_isFresh, .inl (g.2 1, 3, .inl (fun _ => 0))), (y, .inr (7, [.ref y_refused, .ref y_document, .int i_bytes, .int 0, .ref y_variables, .int 0, .ref y_nodes, .ref y_node, .ref y_master, .ref y_isSet, .ref y_setMany, .ref y_setFrom, .ref y_setUsed, .ref y_setText, .ref y_atStop, .ref y_isFresh, .ref y_then, .ref y_choiceMany, .ref y_choiceFrom, .ref y_choiceLong, .ref y_choiceBytes, .int i_ahead, .ref y_text, .int i_length, .int i_readAt, .int i_isFaulty, .int i_occurrences, .ref y_open, .int i_deep, .ref y_shown, .int i_many, .int i_isTooMuch, .ref y_nextNode, .ref y_endNode, .ref y_made, .ref y_beganAt, .ref y_ofNode, .ref y_isOwn, .int i_levels, .ref y_begin, .ref y_size, .ref y_holding, .int i_states, .ref y_kept, .int i_keptAt])), (y_nodes, .inl (g.2 1, 4, .inl fn)), (y_master, .inl (g.2 1, 40, .inl f_1))] H locs := h
  refine lv_iinc (v := 7) (lv' := [(2, .int 7), (0, .ref y), (1, .int 0)]) hx hb dX7_begun_49 hl (k := 0) rfl (by decide) (by decide) rfl (fun ls hl => ?_)
  refine lv_goto (tgt := 7) hx hb dX7_begun_52 (by decide) ?_
  refine lv_iload_n hx hb dX7_begun_7 rfl (lv_at hl 0 rfl) ?_
  refine lv_bipush (v := 10) hx hb dX7_begun_8 (by decide) ?_
  refine lv_icmp_ge (tgt := 55) hx hb dX7_begun_10 (by decide) (fun c_30 => absurd c_30 (by decide)) (fun c_30 => ?_)
  refine lv_aload_n hx hb dX7_begun_13 rfl (lv_at hl 1 rfl) ?_
  refine r_get X h kl7 8 9 rfl (by decide) lk_X7_28 rfl dX7_begun_14 ?_
  refine lv_bipush (v := 10) hx hb dX7_begun_17 (by decide) ?_
  refine lv_iload_n hx hb dX7_begun_19 rfl (lv_at hl 2 rfl) ?_
  refine lv_imul hx hb dX7_begun_20 ?_
  refine r_vi (y := 0) (by decide) ?_
  refine lv_iload_n hx hb dX7_begun_21 rfl (lv_at hl 0 rfl) ?_
  refine lv_iadd hx hb dX7_begun_22 ?_
  refine r_vi (y := 7) (by decide) ?_
  refine lv_iconst (v := 0) hx hb dX7_begun_23 (by decide) ?_
  refine r_iastF X h 0 rfl (vp_lit (by decide +kernel)) dX7_begun_24 (fun f_31 H locs h => ?_)
  have h : ST g A s [(y_isSet, .inl (g.2 1, 30, .inl f_31)), (y_setMany, .inl (g.2 1, 30, .inl f_28)), (y_setFrom, .inl (g.2 1, 30, .inl f_29)), (y_setUsed, .inl (g.2 1, 3, .inl (fun _ => 0))), (y_then, .inl (g.2 1, 156, .inl (fun _ => 0))), (y_variables, .inl (g.2 1, 52, .inl (fun _ => 0))), (y_atStop, .inl (g.2 1, 3, .inl (fun _ => 0))), (y_isFresh, .inl (g.2 1, 3, .inl (fun _ => 0))), (y, .inr (7, [.ref y_refused, .ref y_document, .int i_bytes, .int 0, .ref y_variables, .int 0, .ref y_nodes, .ref y_node, .ref y_master, .ref y_isSet, .ref y_setMany, .ref y_setFrom, .ref y_setUsed, .ref y_setText, .ref y_atStop, .ref y_isFresh, .ref y_then, .ref y_choiceMany, .ref y_choiceFrom, .ref y_choiceLong, .ref y_choiceBytes, .int i_ahead, .ref y_text, .int i_length, .int i_readAt, .int i_isFaulty, .int i_occurrences, .ref y_open, .int i_deep, .ref y_shown, .int i_many, .int i_isTooMuch, .ref y_nextNode, .ref y_endNode, .ref y_made, .ref y_beganAt, .ref y_ofNode, .ref y_isOwn, .int i_levels, .ref y_begin, .ref y_size, .ref y_holding, .int i_states, .ref y_kept, .int i_keptAt])), (y_nodes, .inl (g.2 1, 4, .inl fn)), (y_master, .inl (g.2 1, 40, .inl f_1))] H locs := h
  refine lv_aload_n hx hb dX7_begun_25 rfl (lv_at hl 1 rfl) ?_
  refine r_get X h kl7 8 10 rfl (by decide) lk_X7_31 rfl dX7_begun_26 ?_
  refine lv_bipush (v := 10) hx hb dX7_begun_29 (by decide) ?_
  refine lv_iload_n hx hb dX7_begun_31 rfl (lv_at hl 2 rfl) ?_
  refine lv_imul hx hb dX7_begun_32 ?_
  refine r_vi (y := 0) (by decide) ?_
  refine lv_iload_n hx hb dX7_begun_33 rfl (lv_at hl 0 rfl) ?_
  refine lv_iadd hx hb dX7_begun_34 ?_
  refine r_vi (y := 7) (by decide) ?_
  refine lv_iconst (v := 0) hx hb dX7_begun_35 (by decide) ?_
  refine r_iastF X h 1 rfl (vp_lit (by decide +kernel)) dX7_begun_36 (fun f_32 H locs h => ?_)
  have h : ST g A s [(y_isSet, .inl (g.2 1, 30, .inl f_31)), (y_setMany, .inl (g.2 1, 30, .inl f_32)), (y_setFrom, .inl (g.2 1, 30, .inl f_29)), (y_setUsed, .inl (g.2 1, 3, .inl (fun _ => 0))), (y_then, .inl (g.2 1, 156, .inl (fun _ => 0))), (y_variables, .inl (g.2 1, 52, .inl (fun _ => 0))), (y_atStop, .inl (g.2 1, 3, .inl (fun _ => 0))), (y_isFresh, .inl (g.2 1, 3, .inl (fun _ => 0))), (y, .inr (7, [.ref y_refused, .ref y_document, .int i_bytes, .int 0, .ref y_variables, .int 0, .ref y_nodes, .ref y_node, .ref y_master, .ref y_isSet, .ref y_setMany, .ref y_setFrom, .ref y_setUsed, .ref y_setText, .ref y_atStop, .ref y_isFresh, .ref y_then, .ref y_choiceMany, .ref y_choiceFrom, .ref y_choiceLong, .ref y_choiceBytes, .int i_ahead, .ref y_text, .int i_length, .int i_readAt, .int i_isFaulty, .int i_occurrences, .ref y_open, .int i_deep, .ref y_shown, .int i_many, .int i_isTooMuch, .ref y_nextNode, .ref y_endNode, .ref y_made, .ref y_beganAt, .ref y_ofNode, .ref y_isOwn, .int i_levels, .ref y_begin, .ref y_size, .ref y_holding, .int i_states, .ref y_kept, .int i_keptAt])), (y_nodes, .inl (g.2 1, 4, .inl fn)), (y_master, .inl (g.2 1, 40, .inl f_1))] H locs := h
  refine lv_aload_n hx hb dX7_begun_37 rfl (lv_at hl 1 rfl) ?_
  refine r_get X h kl7 8 11 rfl (by decide) lk_X7_34 rfl dX7_begun_38 ?_
  refine lv_bipush (v := 10) hx hb dX7_begun_41 (by decide) ?_
  refine lv_iload_n hx hb dX7_begun_43 rfl (lv_at hl 2 rfl) ?_
  refine lv_imul hx hb dX7_begun_44 ?_
  refine r_vi (y := 0) (by decide) ?_
  refine lv_iload_n hx hb dX7_begun_45 rfl (lv_at hl 0 rfl) ?_
  refine lv_iadd hx hb dX7_begun_46 ?_
  refine r_vi (y := 7) (by decide) ?_
  refine lv_iconst (v := 0) hx hb dX7_begun_47 (by decide) ?_
  refine r_iastF X h 2 rfl (vp_lit (by decide +kernel)) dX7_begun_48 (fun f_33 H locs h => ?_)
  have h : ST g A s [(y_isSet, .inl (g.2 1, 30, .inl f_31)), (y_setMany, .inl (g.2 1, 30, .inl f_32)), (y_setFrom, .inl (g.2 1, 30, .inl f_33)), (y_setUsed, .inl (g.2 1, 3, .inl (fun _ => 0))), (y_then, .inl (g.2 1, 156, .inl (fun _ => 0))), (y_variables, .inl (g.2 1, 52, .inl (fun _ => 0))), (y_atStop, .inl (g.2 1, 3, .inl (fun _ => 0))), (y_isFresh, .inl (g.2 1, 3, .inl (fun _ => 0))), (y, .inr (7, [.ref y_refused, .ref y_document, .int i_bytes, .int 0, .ref y_variables, .int 0, .ref y_nodes, .ref y_node, .ref y_master, .ref y_isSet, .ref y_setMany, .ref y_setFrom, .ref y_setUsed, .ref y_setText, .ref y_atStop, .ref y_isFresh, .ref y_then, .ref y_choiceMany, .ref y_choiceFrom, .ref y_choiceLong, .ref y_choiceBytes, .int i_ahead, .ref y_text, .int i_length, .int i_readAt, .int i_isFaulty, .int i_occurrences, .ref y_open, .int i_deep, .ref y_shown, .int i_many, .int i_isTooMuch, .ref y_nextNode, .ref y_endNode, .ref y_made, .ref y_beganAt, .ref y_ofNode, .ref y_isOwn, .int i_levels, .ref y_begin, .ref y_size, .ref y_holding, .int i_states, .ref y_kept, .int i_keptAt])), (y_nodes, .inl (g.2 1, 4, .inl fn)), (y_master, .inl (g.2 1, 40, .inl f_1))] H locs := h
  refine lv_iinc (v := 8) (lv' := [(2, .int 8), (0, .ref y), (1, .int 0)]) hx hb dX7_begun_49 hl (k := 0) rfl (by decide) (by decide) rfl (fun ls hl => ?_)
  refine lv_goto (tgt := 7) hx hb dX7_begun_52 (by decide) ?_
  refine lv_iload_n hx hb dX7_begun_7 rfl (lv_at hl 0 rfl) ?_
  refine lv_bipush (v := 10) hx hb dX7_begun_8 (by decide) ?_
  refine lv_icmp_ge (tgt := 55) hx hb dX7_begun_10 (by decide) (fun c_34 => absurd c_34 (by decide)) (fun c_34 => ?_)
  refine lv_aload_n hx hb dX7_begun_13 rfl (lv_at hl 1 rfl) ?_
  refine r_get X h kl7 8 9 rfl (by decide) lk_X7_28 rfl dX7_begun_14 ?_
  refine lv_bipush (v := 10) hx hb dX7_begun_17 (by decide) ?_
  refine lv_iload_n hx hb dX7_begun_19 rfl (lv_at hl 2 rfl) ?_
  refine lv_imul hx hb dX7_begun_20 ?_
  refine r_vi (y := 0) (by decide) ?_
  refine lv_iload_n hx hb dX7_begun_21 rfl (lv_at hl 0 rfl) ?_
  refine lv_iadd hx hb dX7_begun_22 ?_
  refine r_vi (y := 8) (by decide) ?_
  refine lv_iconst (v := 0) hx hb dX7_begun_23 (by decide) ?_
  refine r_iastF X h 0 rfl (vp_lit (by decide +kernel)) dX7_begun_24 (fun f_35 H locs h => ?_)
  have h : ST g A s [(y_isSet, .inl (g.2 1, 30, .inl f_35)), (y_setMany, .inl (g.2 1, 30, .inl f_32)), (y_setFrom, .inl (g.2 1, 30, .inl f_33)), (y_setUsed, .inl (g.2 1, 3, .inl (fun _ => 0))), (y_then, .inl (g.2 1, 156, .inl (fun _ => 0))), (y_variables, .inl (g.2 1, 52, .inl (fun _ => 0))), (y_atStop, .inl (g.2 1, 3, .inl (fun _ => 0))), (y_isFresh, .inl (g.2 1, 3, .inl (fun _ => 0))), (y, .inr (7, [.ref y_refused, .ref y_document, .int i_bytes, .int 0, .ref y_variables, .int 0, .ref y_nodes, .ref y_node, .ref y_master, .ref y_isSet, .ref y_setMany, .ref y_setFrom, .ref y_setUsed, .ref y_setText, .ref y_atStop, .ref y_isFresh, .ref y_then, .ref y_choiceMany, .ref y_choiceFrom, .ref y_choiceLong, .ref y_choiceBytes, .int i_ahead, .ref y_text, .int i_length, .int i_readAt, .int i_isFaulty, .int i_occurrences, .ref y_open, .int i_deep, .ref y_shown, .int i_many, .int i_isTooMuch, .ref y_nextNode, .ref y_endNode, .ref y_made, .ref y_beganAt, .ref y_ofNode, .ref y_isOwn, .int i_levels, .ref y_begin, .ref y_size, .ref y_holding, .int i_states, .ref y_kept, .int i_keptAt])), (y_nodes, .inl (g.2 1, 4, .inl fn)), (y_master, .inl (g.2 1, 40, .inl f_1))] H locs := h
  refine lv_aload_n hx hb dX7_begun_25 rfl (lv_at hl 1 rfl) ?_
  refine r_get X h kl7 8 10 rfl (by decide) lk_X7_31 rfl dX7_begun_26 ?_
  refine lv_bipush (v := 10) hx hb dX7_begun_29 (by decide) ?_
  refine lv_iload_n hx hb dX7_begun_31 rfl (lv_at hl 2 rfl) ?_
  refine lv_imul hx hb dX7_begun_32 ?_
  refine r_vi (y := 0) (by decide) ?_
  refine lv_iload_n hx hb dX7_begun_33 rfl (lv_at hl 0 rfl) ?_
  refine lv_iadd hx hb dX7_begun_34 ?_
  refine r_vi (y := 8) (by decide) ?_
  refine lv_iconst (v := 0) hx hb dX7_begun_35 (by decide) ?_
  refine r_iastF X h 1 rfl (vp_lit (by decide +kernel)) dX7_begun_36 (fun f_36 H locs h => ?_)
  have h : ST g A s [(y_isSet, .inl (g.2 1, 30, .inl f_35)), (y_setMany, .inl (g.2 1, 30, .inl f_36)), (y_setFrom, .inl (g.2 1, 30, .inl f_33)), (y_setUsed, .inl (g.2 1, 3, .inl (fun _ => 0))), (y_then, .inl (g.2 1, 156, .inl (fun _ => 0))), (y_variables, .inl (g.2 1, 52, .inl (fun _ => 0))), (y_atStop, .inl (g.2 1, 3, .inl (fun _ => 0))), (y_isFresh, .inl (g.2 1, 3, .inl (fun _ => 0))), (y, .inr (7, [.ref y_refused, .ref y_document, .int i_bytes, .int 0, .ref y_variables, .int 0, .ref y_nodes, .ref y_node, .ref y_master, .ref y_isSet, .ref y_setMany, .ref y_setFrom, .ref y_setUsed, .ref y_setText, .ref y_atStop, .ref y_isFresh, .ref y_then, .ref y_choiceMany, .ref y_choiceFrom, .ref y_choiceLong, .ref y_choiceBytes, .int i_ahead, .ref y_text, .int i_length, .int i_readAt, .int i_isFaulty, .int i_occurrences, .ref y_open, .int i_deep, .ref y_shown, .int i_many, .int i_isTooMuch, .ref y_nextNode, .ref y_endNode, .ref y_made, .ref y_beganAt, .ref y_ofNode, .ref y_isOwn, .int i_levels, .ref y_begin, .ref y_size, .ref y_holding, .int i_states, .ref y_kept, .int i_keptAt])), (y_nodes, .inl (g.2 1, 4, .inl fn)), (y_master, .inl (g.2 1, 40, .inl f_1))] H locs := h
  refine lv_aload_n hx hb dX7_begun_37 rfl (lv_at hl 1 rfl) ?_
  refine r_get X h kl7 8 11 rfl (by decide) lk_X7_34 rfl dX7_begun_38 ?_
  refine lv_bipush (v := 10) hx hb dX7_begun_41 (by decide) ?_
  refine lv_iload_n hx hb dX7_begun_43 rfl (lv_at hl 2 rfl) ?_
  refine lv_imul hx hb dX7_begun_44 ?_
  refine r_vi (y := 0) (by decide) ?_
  refine lv_iload_n hx hb dX7_begun_45 rfl (lv_at hl 0 rfl) ?_
  refine lv_iadd hx hb dX7_begun_46 ?_
  refine r_vi (y := 8) (by decide) ?_
  refine lv_iconst (v := 0) hx hb dX7_begun_47 (by decide) ?_
  refine r_iastF X h 2 rfl (vp_lit (by decide +kernel)) dX7_begun_48 (fun f_37 H locs h => ?_)
  have h : ST g A s [(y_isSet, .inl (g.2 1, 30, .inl f_35)), (y_setMany, .inl (g.2 1, 30, .inl f_36)), (y_setFrom, .inl (g.2 1, 30, .inl f_37)), (y_setUsed, .inl (g.2 1, 3, .inl (fun _ => 0))), (y_then, .inl (g.2 1, 156, .inl (fun _ => 0))), (y_variables, .inl (g.2 1, 52, .inl (fun _ => 0))), (y_atStop, .inl (g.2 1, 3, .inl (fun _ => 0))), (y_isFresh, .inl (g.2 1, 3, .inl (fun _ => 0))), (y, .inr (7, [.ref y_refused, .ref y_document, .int i_bytes, .int 0, .ref y_variables, .int 0, .ref y_nodes, .ref y_node, .ref y_master, .ref y_isSet, .ref y_setMany, .ref y_setFrom, .ref y_setUsed, .ref y_setText, .ref y_atStop, .ref y_isFresh, .ref y_then, .ref y_choiceMany, .ref y_choiceFrom, .ref y_choiceLong, .ref y_choiceBytes, .int i_ahead, .ref y_text, .int i_length, .int i_readAt, .int i_isFaulty, .int i_occurrences, .ref y_open, .int i_deep, .ref y_shown, .int i_many, .int i_isTooMuch, .ref y_nextNode, .ref y_endNode, .ref y_made, .ref y_beganAt, .ref y_ofNode, .ref y_isOwn, .int i_levels, .ref y_begin, .ref y_size, .ref y_holding, .int i_states, .ref y_kept, .int i_keptAt])), (y_nodes, .inl (g.2 1, 4, .inl fn)), (y_master, .inl (g.2 1, 40, .inl f_1))] H locs := h
  refine lv_iinc (v := 9) (lv' := [(2, .int 9), (0, .ref y), (1, .int 0)]) hx hb dX7_begun_49 hl (k := 0) rfl (by decide) (by decide) rfl (fun ls hl => ?_)
  refine lv_goto (tgt := 7) hx hb dX7_begun_52 (by decide) ?_
  refine lv_iload_n hx hb dX7_begun_7 rfl (lv_at hl 0 rfl) ?_
  refine lv_bipush (v := 10) hx hb dX7_begun_8 (by decide) ?_
  refine lv_icmp_ge (tgt := 55) hx hb dX7_begun_10 (by decide) (fun c_38 => absurd c_38 (by decide)) (fun c_38 => ?_)
  refine lv_aload_n hx hb dX7_begun_13 rfl (lv_at hl 1 rfl) ?_
  refine r_get X h kl7 8 9 rfl (by decide) lk_X7_28 rfl dX7_begun_14 ?_
  refine lv_bipush (v := 10) hx hb dX7_begun_17 (by decide) ?_
  refine lv_iload_n hx hb dX7_begun_19 rfl (lv_at hl 2 rfl) ?_
  refine lv_imul hx hb dX7_begun_20 ?_
  refine r_vi (y := 0) (by decide) ?_
  refine lv_iload_n hx hb dX7_begun_21 rfl (lv_at hl 0 rfl) ?_
  refine lv_iadd hx hb dX7_begun_22 ?_
  refine r_vi (y := 9) (by decide) ?_
  refine lv_iconst (v := 0) hx hb dX7_begun_23 (by decide) ?_
  refine r_iastF X h 0 rfl (vp_lit (by decide +kernel)) dX7_begun_24 (fun f_39 H locs h => ?_)
  have h : ST g A s [(y_isSet, .inl (g.2 1, 30, .inl f_39)), (y_setMany, .inl (g.2 1, 30, .inl f_36)), (y_setFrom, .inl (g.2 1, 30, .inl f_37)), (y_setUsed, .inl (g.2 1, 3, .inl (fun _ => 0))), (y_then, .inl (g.2 1, 156, .inl (fun _ => 0))), (y_variables, .inl (g.2 1, 52, .inl (fun _ => 0))), (y_atStop, .inl (g.2 1, 3, .inl (fun _ => 0))), (y_isFresh, .inl (g.2 1, 3, .inl (fun _ => 0))), (y, .inr (7, [.ref y_refused, .ref y_document, .int i_bytes, .int 0, .ref y_variables, .int 0, .ref y_nodes, .ref y_node, .ref y_master, .ref y_isSet, .ref y_setMany, .ref y_setFrom, .ref y_setUsed, .ref y_setText, .ref y_atStop, .ref y_isFresh, .ref y_then, .ref y_choiceMany, .ref y_choiceFrom, .ref y_choiceLong, .ref y_choiceBytes, .int i_ahead, .ref y_text, .int i_length, .int i_readAt, .int i_isFaulty, .int i_occurrences, .ref y_open, .int i_deep, .ref y_shown, .int i_many, .int i_isTooMuch, .ref y_nextNode, .ref y_endNode, .ref y_made, .ref y_beganAt, .ref y_ofNode, .ref y_isOwn, .int i_levels, .ref y_begin, .ref y_size, .ref y_holding, .int i_states, .ref y_kept, .int i_keptAt])), (y_nodes, .inl (g.2 1, 4, .inl fn)), (y_master, .inl (g.2 1, 40, .inl f_1))] H locs := h
  refine lv_aload_n hx hb dX7_begun_25 rfl (lv_at hl 1 rfl) ?_
  refine r_get X h kl7 8 10 rfl (by decide) lk_X7_31 rfl dX7_begun_26 ?_
  refine lv_bipush (v := 10) hx hb dX7_begun_29 (by decide) ?_
  refine lv_iload_n hx hb dX7_begun_31 rfl (lv_at hl 2 rfl) ?_
  refine lv_imul hx hb dX7_begun_32 ?_
  refine r_vi (y := 0) (by decide) ?_
  refine lv_iload_n hx hb dX7_begun_33 rfl (lv_at hl 0 rfl) ?_
  refine lv_iadd hx hb dX7_begun_34 ?_
  refine r_vi (y := 9) (by decide) ?_
  refine lv_iconst (v := 0) hx hb dX7_begun_35 (by decide) ?_
  refine r_iastF X h 1 rfl (vp_lit (by decide +kernel)) dX7_begun_36 (fun f_40 H locs h => ?_)
  have h : ST g A s [(y_isSet, .inl (g.2 1, 30, .inl f_39)), (y_setMany, .inl (g.2 1, 30, .inl f_40)), (y_setFrom, .inl (g.2 1, 30, .inl f_37)), (y_setUsed, .inl (g.2 1, 3, .inl (fun _ => 0))), (y_then, .inl (g.2 1, 156, .inl (fun _ => 0))), (y_variables, .inl (g.2 1, 52, .inl (fun _ => 0))), (y_atStop, .inl (g.2 1, 3, .inl (fun _ => 0))), (y_isFresh, .inl (g.2 1, 3, .inl (fun _ => 0))), (y, .inr (7, [.ref y_refused, .ref y_document, .int i_bytes, .int 0, .ref y_variables, .int 0, .ref y_nodes, .ref y_node, .ref y_master, .ref y_isSet, .ref y_setMany, .ref y_setFrom, .ref y_setUsed, .ref y_setText, .ref y_atStop, .ref y_isFresh, .ref y_then, .ref y_choiceMany, .ref y_choiceFrom, .ref y_choiceLong, .ref y_choiceBytes, .int i_ahead, .ref y_text, .int i_length, .int i_readAt, .int i_isFaulty, .int i_occurrences, .ref y_open, .int i_deep, .ref y_shown, .int i_many, .int i_isTooMuch, .ref y_nextNode, .ref y_endNode, .ref y_made, .ref y_beganAt, .ref y_ofNode, .ref y_isOwn, .int i_levels, .ref y_begin, .ref y_size, .ref y_holding, .int i_states, .ref y_kept, .int i_keptAt])), (y_nodes, .inl (g.2 1, 4, .inl fn)), (y_master, .inl (g.2 1, 40, .inl f_1))] H locs := h
  refine lv_aload_n hx hb dX7_begun_37 rfl (lv_at hl 1 rfl) ?_
  refine r_get X h kl7 8 11 rfl (by decide) lk_X7_34 rfl dX7_begun_38 ?_
  refine lv_bipush (v := 10) hx hb dX7_begun_41 (by decide) ?_
  refine lv_iload_n hx hb dX7_begun_43 rfl (lv_at hl 2 rfl) ?_
  refine lv_imul hx hb dX7_begun_44 ?_
  refine r_vi (y := 0) (by decide) ?_
  refine lv_iload_n hx hb dX7_begun_45 rfl (lv_at hl 0 rfl) ?_
  refine lv_iadd hx hb dX7_begun_46 ?_
  refine r_vi (y := 9) (by decide) ?_
  refine lv_iconst (v := 0) hx hb dX7_begun_47 (by decide) ?_
  refine r_iastF X h 2 rfl (vp_lit (by decide +kernel)) dX7_begun_48 (fun f_41 H locs h => ?_)
  have h : ST g A s [(y_isSet, .inl (g.2 1, 30, .inl f_39)), (y_setMany, .inl (g.2 1, 30, .inl f_40)), (y_setFrom, .inl (g.2 1, 30, .inl f_41)), (y_setUsed, .inl (g.2 1, 3, .inl (fun _ => 0))), (y_then, .inl (g.2 1, 156, .inl (fun _ => 0))), (y_variables, .inl (g.2 1, 52, .inl (fun _ => 0))), (y_atStop, .inl (g.2 1, 3, .inl (fun _ => 0))), (y_isFresh, .inl (g.2 1, 3, .inl (fun _ => 0))), (y, .inr (7, [.ref y_refused, .ref y_document, .int i_bytes, .int 0, .ref y_variables, .int 0, .ref y_nodes, .ref y_node, .ref y_master, .ref y_isSet, .ref y_setMany, .ref y_setFrom, .ref y_setUsed, .ref y_setText, .ref y_atStop, .ref y_isFresh, .ref y_then, .ref y_choiceMany, .ref y_choiceFrom, .ref y_choiceLong, .ref y_choiceBytes, .int i_ahead, .ref y_text, .int i_length, .int i_readAt, .int i_isFaulty, .int i_occurrences, .ref y_open, .int i_deep, .ref y_shown, .int i_many, .int i_isTooMuch, .ref y_nextNode, .ref y_endNode, .ref y_made, .ref y_beganAt, .ref y_ofNode, .ref y_isOwn, .int i_levels, .ref y_begin, .ref y_size, .ref y_holding, .int i_states, .ref y_kept, .int i_keptAt])), (y_nodes, .inl (g.2 1, 4, .inl fn)), (y_master, .inl (g.2 1, 40, .inl f_1))] H locs := h
  refine lv_iinc (v := 10) (lv' := [(2, .int 10), (0, .ref y), (1, .int 0)]) hx hb dX7_begun_49 hl (k := 0) rfl (by decide) (by decide) rfl (fun ls hl => ?_)
  refine lv_goto (tgt := 7) hx hb dX7_begun_52 (by decide) ?_
  refine lv_iload_n hx hb dX7_begun_7 rfl (lv_at hl 0 rfl) ?_
  refine lv_bipush (v := 10) hx hb dX7_begun_8 (by decide) ?_
  refine lv_icmp_ge (tgt := 55) hx hb dX7_begun_10 (by decide) (fun c_42 => ?_) (fun c_42 => absurd (by decide) c_42)
  refine lv_aload_n hx hb dX7_begun_55 rfl (lv_at hl 1 rfl) ?_
  refine r_get X h kl7 8 12 rfl (by decide) lk_X7_37 rfl dX7_begun_56 ?_
  refine lv_iload_n hx hb dX7_begun_59 rfl (lv_at hl 2 rfl) ?_
  refine lv_iconst (v := 0) hx hb dX7_begun_60 (by decide) ?_
  refine r_iastF X h 3 rfl (vp_lit (by decide +kernel)) dX7_begun_61 (fun f_43 H locs h => ?_)
  have h : ST g A s [(y_isSet, .inl (g.2 1, 30, .inl f_39)), (y_setMany, .inl (g.2 1, 30, .inl f_40)), (y_setFrom, .inl (g.2 1, 30, .inl f_41)), (y_setUsed, .inl (g.2 1, 3, .inl f_43)), (y_then, .inl (g.2 1, 156, .inl (fun _ => 0))), (y_variables, .inl (g.2 1, 52, .inl (fun _ => 0))), (y_atStop, .inl (g.2 1, 3, .inl (fun _ => 0))), (y_isFresh, .inl (g.2 1, 3, .inl (fun _ => 0))), (y, .inr (7, [.ref y_refused, .ref y_document, .int i_bytes, .int 0, .ref y_variables, .int 0, .ref y_nodes, .ref y_node, .ref y_master, .ref y_isSet, .ref y_setMany, .ref y_setFrom, .ref y_setUsed, .ref y_setText, .ref y_atStop, .ref y_isFresh, .ref y_then, .ref y_choiceMany, .ref y_choiceFrom, .ref y_choiceLong, .ref y_choiceBytes, .int i_ahead, .ref y_text, .int i_length, .int i_readAt, .int i_isFaulty, .int i_occurrences, .ref y_open, .int i_deep, .ref y_shown, .int i_many, .int i_isTooMuch, .ref y_nextNode, .ref y_endNode, .ref y_made, .ref y_beganAt, .ref y_ofNode, .ref y_isOwn, .int i_levels, .ref y_begin, .ref y_size, .ref y_holding, .int i_states, .ref y_kept, .int i_keptAt])), (y_nodes, .inl (g.2 1, 4, .inl fn)), (y_master, .inl (g.2 1, 40, .inl f_1))] H locs := h
  refine lv_iconst (v := 0) hx hb dX7_begun_62 (by decide) ?_
  refine lv_istore_n (lv' := [(2, .int 0), (0, .ref y), (1, .int 0)]) hx hb dX7_begun_63 rfl hl (by decide) rfl (fun ls hl => ?_)
  refine k_loop 52 (f0 := (fun _ => 0)) (fun i fk => [(y_isSet, .inl (g.2 1, 30, .inl f_39)), (y_setMany, .inl (g.2 1, 30, .inl f_40)), (y_setFrom, .inl (g.2 1, 30, .inl f_41)), (y_setUsed, .inl (g.2 1, 3, .inl f_43)), (y_then, .inl (g.2 1, 156, .inl fk)), (y_variables, .inl (g.2 1, 52, .inl (fun _ => 0))), (y_atStop, .inl (g.2 1, 3, .inl (fun _ => 0))), (y_isFresh, .inl (g.2 1, 3, .inl (fun _ => 0))), (y, .inr (7, [.ref y_refused, .ref y_document, .int i_bytes, .int 0, .ref y_variables, .int 0, .ref y_nodes, .ref y_node, .ref y_master, .ref y_isSet, .ref y_setMany, .ref y_setFrom, .ref y_setUsed, .ref y_setText, .ref y_atStop, .ref y_isFresh, .ref y_then, .ref y_choiceMany, .ref y_choiceFrom, .ref y_choiceLong, .ref y_choiceBytes, .int i_ahead, .ref y_text, .int i_length, .int i_readAt, .int i_isFaulty, .int i_occurrences, .ref y_open, .int i_deep, .ref y_shown, .int i_many, .int i_isTooMuch, .ref y_nextNode, .ref y_endNode, .ref y_made, .ref y_beganAt, .ref y_ofNode, .ref y_isOwn, .int i_levels, .ref y_begin, .ref y_size, .ref y_holding, .int i_states, .ref y_kept, .int i_keptAt])), (y_nodes, .inl (g.2 1, 4, .inl fn)), (y_master, .inl (g.2 1, 40, .inl f_1))]) (fun i => [(2, .int (nI i)), (0, .ref y), (1, .int 0)]) h hl (fun i hi ih fk H locs ls h hl => ?_) (fun fk H locs ls h hl => ?_)
  · have h : ST g A s [(y_isSet, .inl (g.2 1, 30, .inl f_39)), (y_setMany, .inl (g.2 1, 30, .inl f_40)), (y_setFrom, .inl (g.2 1, 30, .inl f_41)), (y_setUsed, .inl (g.2 1, 3, .inl f_43)), (y_then, .inl (g.2 1, 156, .inl fk)), (y_variables, .inl (g.2 1, 52, .inl (fun _ => 0))), (y_atStop, .inl (g.2 1, 3, .inl (fun _ => 0))), (y_isFresh, .inl (g.2 1, 3, .inl (fun _ => 0))), (y, .inr (7, [.ref y_refused, .ref y_document, .int i_bytes, .int 0, .ref y_variables, .int 0, .ref y_nodes, .ref y_node, .ref y_master, .ref y_isSet, .ref y_setMany, .ref y_setFrom, .ref y_setUsed, .ref y_setText, .ref y_atStop, .ref y_isFresh, .ref y_then, .ref y_choiceMany, .ref y_choiceFrom, .ref y_choiceLong, .ref y_choiceBytes, .int i_ahead, .ref y_text, .int i_length, .int i_readAt, .int i_isFaulty, .int i_occurrences, .ref y_open, .int i_deep, .ref y_shown, .int i_many, .int i_isTooMuch, .ref y_nextNode, .ref y_endNode, .ref y_made, .ref y_beganAt, .ref y_ofNode, .ref y_isOwn, .int i_levels, .ref y_begin, .ref y_size, .ref y_holding, .int i_states, .ref y_kept, .int i_keptAt])), (y_nodes, .inl (g.2 1, 4, .inl fn)), (y_master, .inl (g.2 1, 40, .inl f_1))] H locs := h
    have hl : lv_has ls 3 [(2, .int (nI i)), (0, .ref y), (1, .int 0)] := hl
    refine lv_iload_n hx hb dX7_begun_64 rfl (lv_at hl 0 rfl) ?_
    refine lv_bipush (v := 52) hx hb dX7_begun_65 (by decide) ?_
    refine lv_icmp_ge (tgt := 93) hx hb dX7_begun_67 (by decide) (fun c_44 => absurd c_44 (nI_ge (b := 52) hi (by decide))) (fun c_44 => ?_)
    refine lv_aload_n hx hb dX7_begun_70 rfl (lv_at hl 1 rfl) ?_
    refine r_get X h kl7 8 16 rfl (by decide) lk_X7_50 rfl dX7_begun_71 ?_
    refine lv_bipush (v := 52) hx hb dX7_begun_74 (by decide) ?_
    refine lv_iload_n hx hb dX7_begun_76 rfl (lv_at hl 2 rfl) ?_
    refine lv_imul hx hb dX7_begun_77 ?_
    refine r_vi (y := 0) (by decide) ?_
    refine lv_iload_n hx hb dX7_begun_78 rfl (lv_at hl 0 rfl) ?_
    refine lv_iadd hx hb dX7_begun_79 ?_
    refine r_vi (y := (nI i)) (Int32.zero_add _) ?_
    refine lv_aload_n hx hb dX7_begun_80 rfl (lv_at hl 1 rfl) ?_
    refine r_get X h kl7 8 4 rfl (by decide) lk_X7_16 rfl dX7_begun_81 ?_
    refine lv_iload_n hx hb dX7_begun_84 rfl (lv_at hl 0 rfl) ?_
    refine r_iald X h 5 (v := 0) rfl (vp_in_nI hi (by decide)) rfl dX7_begun_85 ?_
    refine r_iastF X h 4 rfl (vp_in_nI (by omega) (by decide)) dX7_begun_86 (fun f_45 H locs h => ?_)
    have h : ST g A s [(y_isSet, .inl (g.2 1, 30, .inl f_39)), (y_setMany, .inl (g.2 1, 30, .inl f_40)), (y_setFrom, .inl (g.2 1, 30, .inl f_41)), (y_setUsed, .inl (g.2 1, 3, .inl f_43)), (y_then, .inl (g.2 1, 156, .inl f_45)), (y_variables, .inl (g.2 1, 52, .inl (fun _ => 0))), (y_atStop, .inl (g.2 1, 3, .inl (fun _ => 0))), (y_isFresh, .inl (g.2 1, 3, .inl (fun _ => 0))), (y, .inr (7, [.ref y_refused, .ref y_document, .int i_bytes, .int 0, .ref y_variables, .int 0, .ref y_nodes, .ref y_node, .ref y_master, .ref y_isSet, .ref y_setMany, .ref y_setFrom, .ref y_setUsed, .ref y_setText, .ref y_atStop, .ref y_isFresh, .ref y_then, .ref y_choiceMany, .ref y_choiceFrom, .ref y_choiceLong, .ref y_choiceBytes, .int i_ahead, .ref y_text, .int i_length, .int i_readAt, .int i_isFaulty, .int i_occurrences, .ref y_open, .int i_deep, .ref y_shown, .int i_many, .int i_isTooMuch, .ref y_nextNode, .ref y_endNode, .ref y_made, .ref y_beganAt, .ref y_ofNode, .ref y_isOwn, .int i_levels, .ref y_begin, .ref y_size, .ref y_holding, .int i_states, .ref y_kept, .int i_keptAt])), (y_nodes, .inl (g.2 1, 4, .inl fn)), (y_master, .inl (g.2 1, 40, .inl f_1))] H locs := h
    refine lv_iinc (v := (nI (i + 1))) (lv' := [(2, .int (nI (i + 1))), (0, .ref y), (1, .int 0)]) hx hb dX7_begun_87 hl (k := 0) rfl (nI_1 i) (by decide) rfl (fun ls hl => ?_)
    refine lv_goto (tgt := 64) hx hb dX7_begun_90 (by decide) ?_
    exact ih _ _ _ _ (h.sub [0, 1, 2, 3, 4, 5, 6, 7, 8, 9, 10] rfl rfl) (lv_sub hl [0, 1, 2] rfl)
  obtain ⟨f_46, rfl⟩ : ∃ z, z = fk := ⟨_, rfl⟩
  have h : ST g A s [(y_isSet, .inl (g.2 1, 30, .inl f_39)), (y_setMany, .inl (g.2 1, 30, .inl f_40)), (y_setFrom, .inl (g.2 1, 30, .inl f_41)), (y_setUsed, .inl (g.2 1, 3, .inl f_43)), (y_then, .inl (g.2 1, 156, .inl f_46)), (y_variables, .inl (g.2 1, 52, .inl (fun _ => 0))), (y_atStop, .inl (g.2 1, 3, .inl (fun _ => 0))), (y_isFresh, .inl (g.2 1, 3, .inl (fun _ => 0))), (y, .inr (7, [.ref y_refused, .ref y_document, .int i_bytes, .int 0, .ref y_variables, .int 0, .ref y_nodes, .ref y_node, .ref y_master, .ref y_isSet, .ref y_setMany, .ref y_setFrom, .ref y_setUsed, .ref y_setText, .ref y_atStop, .ref y_isFresh, .ref y_then, .ref y_choiceMany, .ref y_choiceFrom, .ref y_choiceLong, .ref y_choiceBytes, .int i_ahead, .ref y_text, .int i_length, .int i_readAt, .int i_isFaulty, .int i_occurrences, .ref y_open, .int i_deep, .ref y_shown, .int i_many, .int i_isTooMuch, .ref y_nextNode, .ref y_endNode, .ref y_made, .ref y_beganAt, .ref y_ofNode, .ref y_isOwn, .int i_levels, .ref y_begin, .ref y_size, .ref y_holding, .int i_states, .ref y_kept, .int i_keptAt])), (y_nodes, .inl (g.2 1, 4, .inl fn)), (y_master, .inl (g.2 1, 40, .inl f_1))] H locs := h
  have hl : lv_has ls 3 [(2, .int 52), (0, .ref y), (1, .int 0)] := hl
  refine lv_iload_n hx hb dX7_begun_64 rfl (lv_at hl 0 rfl) ?_
  refine lv_bipush (v := 52) hx hb dX7_begun_65 (by decide) ?_
  refine lv_icmp_ge (tgt := 93) hx hb dX7_begun_67 (by decide) (fun c_47 => ?_) (fun c_47 => absurd (by decide) c_47)
  refine lv_aload_n hx hb dX7_begun_93 rfl (lv_at hl 1 rfl) ?_
  refine r_get X h kl7 8 14 rfl (by decide) lk_X7_44 rfl dX7_begun_94 ?_
  refine lv_iload_n hx hb dX7_begun_97 rfl (lv_at hl 2 rfl) ?_
  refine lv_aload_n hx hb dX7_begun_98 rfl (lv_at hl 1 rfl) ?_
  refine lv_iload_n hx hb dX7_begun_99 rfl (lv_at hl 2 rfl) ?_
  refine lv_iconst (v := 0) hx hb dX7_begun_100 (by decide) ?_
  refine lv_iconst (v := 1) hx hb dX7_begun_101 (by decide) ?_
  refine k_i X h [8, 9] [0, 1, 2, 3, 4, 5, 6, 7, 10] (wr := [(y_isSet, .inl (g.2 1, 30, .inl f_39)), (y_setMany, .inl (g.2 1, 30, .inl f_40)), (y_setFrom, .inl (g.2 1, 30, .inl f_41)), (y_setUsed, .inl (g.2 1, 3, .inl f_43)), (y_then, .inl (g.2 1, 156, .inl f_46)), (y_variables, .inl (g.2 1, 52, .inl (fun _ => 0))), (y_atStop, .inl (g.2 1, 3, .inl (fun _ => 0))), (y_isFresh, .inl (g.2 1, 3, .inl (fun _ => 0))), (y_master, .inl (g.2 1, 40, .inl f_1))]) rfl rfl rfl (by decide) 0 0 (Nat.le_of_ble_eq_true rfl) (Nat.le_of_ble_eq_true rfl) (k_runV X h (As := [.int 0, .int 0, .int 1]) (rest := [.int 0, .ref y_atStop]) (c7_nextStop l g H.size y y_refused y_document y_variables y_nodes y_node y_master y_isSet y_setMany y_setFrom y_setUsed y_setText y_atStop y_isFresh y_then y_choiceMany y_choiceFrom y_choiceLong y_choiceBytes y_text y_open y_shown y_nextNode y_endNode y_made y_beganAt y_ofNode y_isOwn y_begin y_size y_holding y_kept i_bytes 0 0 i_ahead i_length i_readAt i_isFaulty i_occurrences i_deep i_many i_isTooMuch i_levels i_states i_keptAt fn hn) cw_X7_340 [8, 9] rfl rfl 8 kl7 rfl rfl rfl (Nat.le_of_ble_eq_true rfl) (Nat.le_of_ble_eq_true rfl) rfl hl.1 rfl (Nat.le_of_ble_eq_true rfl) dX7_begun_102 (Nat.le_of_ble_eq_true rfl) (Nat.le_of_ble_eq_true rfl)) (fun _ H locs h => ?_)
  have h : ST g A s [(y_isSet, .inl (g.2 1, 30, .inl f_39)), (y_setMany, .inl (g.2 1, 30, .inl f_40)), (y_setFrom, .inl (g.2 1, 30, .inl f_41)), (y_setUsed, .inl (g.2 1, 3, .inl f_43)), (y_then, .inl (g.2 1, 156, .inl f_46)), (y_variables, .inl (g.2 1, 52, .inl (fun _ => 0))), (y_atStop, .inl (g.2 1, 3, .inl (fun _ => 0))), (y_isFresh, .inl (g.2 1, 3, .inl (fun _ => 0))), (y_master, .inl (g.2 1, 40, .inl f_1)), (y, .inr (7, [.ref y_refused, .ref y_document, .int i_bytes, .int 0, .ref y_variables, .int 0, .ref y_nodes, .ref y_node, .ref y_master, .ref y_isSet, .ref y_setMany, .ref y_setFrom, .ref y_setUsed, .ref y_setText, .ref y_atStop, .ref y_isFresh, .ref y_then, .ref y_choiceMany, .ref y_choiceFrom, .ref y_choiceLong, .ref y_choiceBytes, .int i_ahead, .ref y_text, .int i_length, .int i_readAt, .int i_isFaulty, .int i_occurrences, .ref y_open, .int i_deep, .ref y_shown, .int i_many, .int i_isTooMuch, .ref y_nextNode, .ref y_endNode, .ref y_made, .ref y_beganAt, .ref y_ofNode, .ref y_isOwn, .int i_levels, .ref y_begin, .ref y_size, .ref y_holding, .int i_states, .ref y_kept, .int i_keptAt])), (y_nodes, .inl (g.2 1, 4, .inl fn))] H locs := h
  refine r_iast X h 6 rfl (vp_lit (by decide +kernel)) dX7_begun_105 (fun H locs h => ?_)
  have h : ST g A s [(y_isSet, .inl (g.2 1, 30, .inl f_39)), (y_setMany, .inl (g.2 1, 30, .inl f_40)), (y_setFrom, .inl (g.2 1, 30, .inl f_41)), (y_setUsed, .inl (g.2 1, 3, .inl f_43)), (y_then, .inl (g.2 1, 156, .inl f_46)), (y_variables, .inl (g.2 1, 52, .inl (fun _ => 0))), (y_atStop, .inl (g.2 1, 3, .inl (upd (fun _ => 0) 0 (-1)))), (y_isFresh, .inl (g.2 1, 3, .inl (fun _ => 0))), (y_master, .inl (g.2 1, 40, .inl f_1)), (y, .inr (7, [.ref y_refused, .ref y_document, .int i_bytes, .int 0, .ref y_variables, .int 0, .ref y_nodes, .ref y_node, .ref y_master, .ref y_isSet, .ref y_setMany, .ref y_setFrom, .ref y_setUsed, .ref y_setText, .ref y_atStop, .ref y_isFresh, .ref y_then, .ref y_choiceMany, .ref y_choiceFrom, .ref y_choiceLong, .ref y_choiceBytes, .int i_ahead, .ref y_text, .int i_length, .int i_readAt, .int i_isFaulty, .int i_occurrences, .ref y_open, .int i_deep, .ref y_shown, .int i_many, .int i_isTooMuch, .ref y_nextNode, .ref y_endNode, .ref y_made, .ref y_beganAt, .ref y_ofNode, .ref y_isOwn, .int i_levels, .ref y_begin, .ref y_size, .ref y_holding, .int i_states, .ref y_kept, .int i_keptAt])), (y_nodes, .inl (g.2 1, 4, .inl fn))] H locs := h
  refine lv_aload_n hx hb dX7_begun_106 rfl (lv_at hl 1 rfl) ?_
  refine r_get X h kl7 9 15 rfl (by decide) lk_X7_47 rfl dX7_begun_107 ?_
  refine lv_iload_n hx hb dX7_begun_110 rfl (lv_at hl 2 rfl) ?_
  refine lv_iconst (v := 1) hx hb dX7_begun_111 (by decide) ?_
  refine r_iastF X h 7 rfl (vp_lit (by decide +kernel)) dX7_begun_112 (fun f_48 H locs h => ?_)
  have h : ST g A s [(y_isSet, .inl (g.2 1, 30, .inl f_39)), (y_setMany, .inl (g.2 1, 30, .inl f_40)), (y_setFrom, .inl (g.2 1, 30, .inl f_41)), (y_setUsed, .inl (g.2 1, 3, .inl f_43)), (y_then, .inl (g.2 1, 156, .inl f_46)), (y_variables, .inl (g.2 1, 52, .inl (fun _ => 0))), (y_atStop, .inl (g.2 1, 3, .inl (upd (fun _ => 0) 0 (-1)))), (y_isFresh, .inl (g.2 1, 3, .inl f_48)), (y_master, .inl (g.2 1, 40, .inl f_1)), (y, .inr (7, [.ref y_refused, .ref y_document, .int i_bytes, .int 0, .ref y_variables, .int 0, .ref y_nodes, .ref y_node, .ref y_master, .ref y_isSet, .ref y_setMany, .ref y_setFrom, .ref y_setUsed, .ref y_setText, .ref y_atStop, .ref y_isFresh, .ref y_then, .ref y_choiceMany, .ref y_choiceFrom, .ref y_choiceLong, .ref y_choiceBytes, .int i_ahead, .ref y_text, .int i_length, .int i_readAt, .int i_isFaulty, .int i_occurrences, .ref y_open, .int i_deep, .ref y_shown, .int i_many, .int i_isTooMuch, .ref y_nextNode, .ref y_endNode, .ref y_made, .ref y_beganAt, .ref y_ofNode, .ref y_isOwn, .int i_levels, .ref y_begin, .ref y_size, .ref y_holding, .int i_states, .ref y_kept, .int i_keptAt])), (y_nodes, .inl (g.2 1, 4, .inl fn))] H locs := h
  refine lv_aload_n hx hb dX7_begun_113 rfl (lv_at hl 1 rfl) ?_
  refine lv_iload_n hx hb dX7_begun_114 rfl (lv_at hl 2 rfl) ?_
  refine lv_if_ne (tgt := 125) hx hb dX7_begun_115 (by decide) (fun c_49 => absurd (by decide) c_49) (fun c_49 => ?_)
  refine lv_aload_n hx hb dX7_begun_118 rfl (lv_at hl 1 rfl) ?_
  refine r_get X h kl7 9 3 rfl (by decide) lk_X7_282 rfl dX7_begun_119 ?_
  refine lv_goto (tgt := 129) hx hb dX7_begun_122 (by decide) ?_
  refine r_put X h kl7 9 21 (v := .int 0) rfl (by decide) lk_X7_285 rfl rfl rfl (Nat.le_of_ble_eq_true rfl) dX7_begun_129 (fun H locs h => ?_)
  have h : ST g A s [(y_isSet, .inl (g.2 1, 30, .inl f_39)), (y_setMany, .inl (g.2 1, 30, .inl f_40)), (y_setFrom, .inl (g.2 1, 30, .inl f_41)), (y_setUsed, .inl (g.2 1, 3, .inl f_43)), (y_then, .inl (g.2 1, 156, .inl f_46)), (y_variables, .inl (g.2 1, 52, .inl (fun _ => 0))), (y_atStop, .inl (g.2 1, 3, .inl (upd (fun _ => 0) 0 (-1)))), (y_isFresh, .inl (g.2 1, 3, .inl f_48)), (y_master, .inl (g.2 1, 40, .inl f_1)), (y, .inr (7, [.ref y_refused, .ref y_document, .int i_bytes, .int 0, .ref y_variables, .int 0, .ref y_nodes, .ref y_node, .ref y_master, .ref y_isSet, .ref y_setMany, .ref y_setFrom, .ref y_setUsed, .ref y_setText, .ref y_atStop, .ref y_isFresh, .ref y_then, .ref y_choiceMany, .ref y_choiceFrom, .ref y_choiceLong, .ref y_choiceBytes, .int 0, .ref y_text, .int i_length, .int i_readAt, .int i_isFaulty, .int i_occurrences, .ref y_open, .int i_deep, .ref y_shown, .int i_many, .int i_isTooMuch, .ref y_nextNode, .ref y_endNode, .ref y_made, .ref y_beganAt, .ref y_ofNode, .ref y_isOwn, .int i_levels, .ref y_begin, .ref y_size, .ref y_holding, .int i_states, .ref y_kept, .int i_keptAt])), (y_nodes, .inl (g.2 1, 4, .inl fn))] H locs := h
  refine lv_aload_n hx hb dX7_begun_132 rfl (lv_at hl 1 rfl) ?_
  refine lv_dup hx hb dX7_begun_133 rfl ?_
  refine r_get X h kl7 9 5 rfl (by decide) lk_X7_257 rfl dX7_begun_134 ?_
  refine lv_iconst (v := 1) hx hb dX7_begun_137 (by decide) ?_
  refine lv_iadd hx hb dX7_begun_138 ?_
  refine r_vi (y := 1) (by decide) ?_
  refine r_put X h kl7 9 5 (v := .int 1) rfl (by decide) lk_X7_257 rfl rfl rfl (Nat.le_of_ble_eq_true rfl) dX7_begun_139 (fun H locs h => ?_)
  have h : ST g A s [(y_isSet, .inl (g.2 1, 30, .inl f_39)), (y_setMany, .inl (g.2 1, 30, .inl f_40)), (y_setFrom, .inl (g.2 1, 30, .inl f_41)), (y_setUsed, .inl (g.2 1, 3, .inl f_43)), (y_then, .inl (g.2 1, 156, .inl f_46)), (y_variables, .inl (g.2 1, 52, .inl (fun _ => 0))), (y_atStop, .inl (g.2 1, 3, .inl (upd (fun _ => 0) 0 (-1)))), (y_isFresh, .inl (g.2 1, 3, .inl f_48)), (y_master, .inl (g.2 1, 40, .inl f_1)), (y, .inr (7, [.ref y_refused, .ref y_document, .int i_bytes, .int 0, .ref y_variables, .int 1, .ref y_nodes, .ref y_node, .ref y_master, .ref y_isSet, .ref y_setMany, .ref y_setFrom, .ref y_setUsed, .ref y_setText, .ref y_atStop, .ref y_isFresh, .ref y_then, .ref y_choiceMany, .ref y_choiceFrom, .ref y_choiceLong, .ref y_choiceBytes, .int 0, .ref y_text, .int i_length, .int i_readAt, .int i_isFaulty, .int i_occurrences, .ref y_open, .int i_deep, .ref y_shown, .int i_many, .int i_isTooMuch, .ref y_nextNode, .ref y_endNode, .ref y_made, .ref y_beganAt, .ref y_ofNode, .ref y_isOwn, .int i_levels, .ref y_begin, .ref y_size, .ref y_holding, .int i_states, .ref y_kept, .int i_keptAt])), (y_nodes, .inl (g.2 1, 4, .inl fn))] H locs := h
  refine lv_aload_n hx hb dX7_begun_142 rfl (lv_at hl 1 rfl) ?_
  refine k_v X h [9] [0, 1, 2, 3, 4, 5, 6, 7, 8, 10] (wr := [(y_isSet, .inl (g.2 1, 30, .inl f_39)), (y_setMany, .inl (g.2 1, 30, .inl f_40)), (y_setFrom, .inl (g.2 1, 30, .inl f_41)), (y_setUsed, .inl (g.2 1, 3, .inl f_43)), (y_then, .inl (g.2 1, 156, .inl f_46)), (y_variables, .inl (g.2 1, 52, .inl (fun _ => 0))), (y_atStop, .inl (g.2 1, 3, .inl (upd (fun _ => 0) 0 (-1)))), (y_isFresh, .inl (g.2 1, 3, .inl f_48)), (y_master, .inl (g.2 1, 40, .inl f_1)), (y_nodes, .inl (g.2 1, 4, .inl fn))]) rfl rfl rfl (by decide) 0 0 (Nat.le_of_ble_eq_true rfl) (Nat.le_of_ble_eq_true rfl) (k_runV X h (As := []) (rest := []) (c7_passesDown l g H.size y y_refused y_document y_variables y_nodes y_node y_master y_isSet y_setMany y_setFrom y_setUsed y_setText y_atStop y_isFresh y_then y_choiceMany y_choiceFrom y_choiceLong y_choiceBytes y_text y_open y_shown y_nextNode y_endNode y_made y_beganAt y_ofNode y_isOwn y_begin y_size y_holding y_kept i_bytes 0 0 i_length i_readAt i_isFaulty i_occurrences i_deep i_many i_isTooMuch i_levels i_states i_keptAt) cw_X7_343 [9] rfl rfl 9 kl7 rfl rfl rfl (Nat.le_of_ble_eq_true rfl) (Nat.le_of_ble_eq_true rfl) rfl hl.1 rfl (Nat.le_of_ble_eq_true rfl) dX7_begun_143 (Nat.le_of_ble_eq_true rfl) (Nat.le_of_ble_eq_true rfl)) (fun _ H locs h => ?_)
  have h : ST g A s [(y_isSet, .inl (g.2 1, 30, .inl f_39)), (y_setMany, .inl (g.2 1, 30, .inl f_40)), (y_setFrom, .inl (g.2 1, 30, .inl f_41)), (y_setUsed, .inl (g.2 1, 3, .inl f_43)), (y_then, .inl (g.2 1, 156, .inl f_46)), (y_variables, .inl (g.2 1, 52, .inl (fun _ => 0))), (y_atStop, .inl (g.2 1, 3, .inl (upd (fun _ => 0) 0 (-1)))), (y_isFresh, .inl (g.2 1, 3, .inl f_48)), (y_master, .inl (g.2 1, 40, .inl f_1)), (y_nodes, .inl (g.2 1, 4, .inl fn)), (y, .inr (7, [.ref y_refused, .ref y_document, .int i_bytes, .int 0, .ref y_variables, .int 1, .ref y_nodes, .ref y_node, .ref y_master, .ref y_isSet, .ref y_setMany, .ref y_setFrom, .ref y_setUsed, .ref y_setText, .ref y_atStop, .ref y_isFresh, .ref y_then, .ref y_choiceMany, .ref y_choiceFrom, .ref y_choiceLong, .ref y_choiceBytes, .int 0, .ref y_text, .int i_length, .int i_readAt, .int i_isFaulty, .int i_occurrences, .ref y_open, .int i_deep, .ref y_shown, .int i_many, .int i_isTooMuch, .ref y_nextNode, .ref y_endNode, .ref y_made, .ref y_beganAt, .ref y_ofNode, .ref y_isOwn, .int i_levels, .ref y_begin, .ref y_size, .ref y_holding, .int i_states, .ref y_kept, .int i_keptAt]))] H locs := h
  exact r_vret X h hAe () [10, 9, 6] rfl rfl 0 0 (Nat.le_of_ble_eq_true rfl) (Nat.le_of_ble_eq_true rfl) dX7_begun_146
