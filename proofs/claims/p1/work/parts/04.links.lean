set_option maxRecDepth 20000 in
theorem lk_obj_i : Cond.instanceMethod objectInit ∈ WL := List.mem_of_getElem? (i := 10) (by decide +kernel)
set_option maxRecDepth 20000 in
theorem lk_obj_c : Cond.code objectInit ⟨#[0xb1]⟩ 1 none ∈ WL := List.mem_of_getElem? (i := 11) (by decide +kernel)
set_option maxRecDepth 20000 in
theorem lk_aB : Cond.arrayClass .byte ∈ WL := List.mem_of_getElem? (i := 35) (by decide +kernel)
set_option maxRecDepth 20000 in
theorem lk_aI : Cond.arrayClass .int ∈ WL := List.mem_of_getElem? (i := 76) (by decide +kernel)
set_option maxRecDepth 20000 in
theorem lk_aZ : Cond.arrayClass .boolean ∈ WL := List.mem_of_getElem? (i := 70) (by decide +kernel)
set_option maxRecDepth 20000 in
theorem lk_min_s : Cond.static Lib.Math.min.name ∈ WL := List.mem_of_getElem? (i := 201) (by decide +kernel)
set_option maxRecDepth 20000 in
theorem lk_min_i : Cond.initialized "java/lang/Math" ∈ WL := List.mem_of_getElem? (i := 202) (by decide +kernel)
set_option maxRecDepth 20000 in
theorem lk_min_c : Cond.code Lib.Math.min.name Lib.Math.min.code 2 (some .int) ∈ WL := List.mem_of_getElem? (i := 203) (by decide +kernel)
set_option maxRecDepth 20000 in
theorem lk_max_s : Cond.static Lib.Math.max.name ∈ WL := List.mem_of_getElem? (i := 237) (by decide +kernel)
set_option maxRecDepth 20000 in
theorem lk_max_c : Cond.code Lib.Math.max.name Lib.Math.max.code 2 (some .int) ∈ WL := List.mem_of_getElem? (i := 238) (by decide +kernel)
set_option maxRecDepth 20000 in
theorem lk_cp_n : Cond.native arraycopyName ∈ WL := List.mem_of_getElem? (i := 205) (by decide +kernel)
set_option maxRecDepth 20000 in
theorem lk_cp_s : Cond.static arraycopyName ∈ WL := List.mem_of_getElem? (i := 206) (by decide +kernel)
set_option maxRecDepth 20000 in
theorem lk_cp_i : Cond.initialized "java/lang/System" ∈ WL := List.mem_of_getElem? (i := 207) (by decide +kernel)
set_option maxRecDepth 20000 in
theorem lk_ini0 : Cond.initialized RX0 ∈ WL := List.mem_of_getElem? (i := 286) (by decide +kernel)
set_option maxRecDepth 20000 in
theorem lk_inst0 : Cond.instantiable RX0 10 ∈ WL := List.mem_of_getElem? (i := 422) (by decide +kernel)
set_option maxRecDepth 20000 in
theorem lk_ini1 : Cond.initialized RX1 ∈ WL := List.mem_of_getElem? (i := 371) (by decide +kernel)
set_option maxRecDepth 20000 in
theorem lk_inst1 : Cond.instantiable RX1 10 ∈ WL := List.mem_of_getElem? (i := 370) (by decide +kernel)
set_option maxRecDepth 20000 in
theorem lk_ini2 : Cond.initialized RX2 ∈ WL := List.mem_of_getElem? (i := 14) (by decide +kernel)
set_option maxRecDepth 20000 in
theorem lk_inst2 : Cond.instantiable RX2 3 ∈ WL := List.mem_of_getElem? (i := 13) (by decide +kernel)
set_option maxRecDepth 20000 in
theorem lk_ini3 : Cond.initialized RX3 ∈ WL := List.mem_of_getElem? (i := 62) (by decide +kernel)
set_option maxRecDepth 20000 in
theorem lk_inst3 : Cond.instantiable RX3 8 ∈ WL := List.mem_of_getElem? (i := 61) (by decide +kernel)
set_option maxRecDepth 20000 in
theorem lk_ini4 : Cond.initialized RX4 ∈ WL := List.mem_of_getElem? (i := 28) (by decide +kernel)
set_option maxRecDepth 20000 in
theorem lk_inst4 : Cond.instantiable RX4 6 ∈ WL := List.mem_of_getElem? (i := 27) (by decide +kernel)
set_option maxRecDepth 20000 in
theorem lk_ini5 : Cond.initialized RX5 ∈ WL := List.mem_of_getElem? (i := 26) (by decide +kernel)
set_option maxRecDepth 20000 in
theorem lk_inst5 : Cond.instantiable RX5 4 ∈ WL := List.mem_of_getElem? (i := 25) (by decide +kernel)
set_option maxRecDepth 20000 in
theorem lk_ini6 : Cond.initialized RX6 ∈ WL := List.mem_of_getElem? (i := 2) (by decide +kernel)
set_option maxRecDepth 20000 in
theorem lk_inst6 : Cond.instantiable RX6 9 ∈ WL := List.mem_of_getElem? (i := 1) (by decide +kernel)
set_option maxRecDepth 20000 in
theorem lk_ini7 : Cond.initialized RX7 ∈ WL := List.mem_of_getElem? (i := 5) (by decide +kernel)
set_option maxRecDepth 20000 in
theorem lk_inst7 : Cond.instantiable RX7 45 ∈ WL := List.mem_of_getElem? (i := 4) (by decide +kernel)
set_option maxRecDepth 20000 in
theorem lk_X2_3 : Cond.methodLink RX2 3 objectInit ∈ WL := List.mem_of_getElem? (i := 34) (by decide +kernel)
set_option maxRecDepth 20000 in
theorem lk_X2_9 : Cond.fieldLink RX2 9 "SnippetStops$Row" "bytes" "[B" ∈ WL := List.mem_of_getElem? (i := 36) (by decide +kernel)
set_option maxRecDepth 20000 in
theorem lk_X2_15 : Cond.fieldLink RX2 15 "SnippetStops$Row" "size" "I" ∈ WL := List.mem_of_getElem? (i := 37) (by decide +kernel)
set_option maxRecDepth 20000 in
theorem lk_X2_19 : Cond.fieldLink RX2 19 "SnippetStops$Row" "room" "I" ∈ WL := List.mem_of_getElem? (i := 38) (by decide +kernel)
set_option maxRecDepth 20000 in
theorem lk_X2_22 : Cond.methodLink RX2 22 yX2_widen ∈ WL := List.mem_of_getElem? (i := 134) (by decide +kernel)
set_option maxRecDepth 20000 in
theorem lc_X2_widen : Cond.code yX2_widen cX2_widen 5 none ∈ WL := List.mem_of_getElem? (i := 137) (by decide +kernel)
set_option maxRecDepth 20000 in
theorem li_X2_widen : Cond.instanceMethod yX2_widen ∈ WL := List.mem_of_getElem? (i := 135) (by decide +kernel)
set_option maxRecDepth 20000 in
theorem ls_X2_widen : Cond.selects RX2 yX2_widen yX2_widen ∈ WL := List.mem_of_getElem? (i := 136) (by decide +kernel)
set_option maxRecDepth 20000 in
theorem cw_X2_22 : CWV RX2 22 RX2 yX2_widen cX2_widen 5 none 1 := CWV.mk lk_X2_22 li_X2_widen ls_X2_widen lk_ini2 lc_X2_widen (by decide +kernel)
set_option maxRecDepth 20000 in
theorem lk_X2_26 : Cond.methodLink RX2 26 yX2_put ∈ WL := List.mem_of_getElem? (i := 138) (by decide +kernel)
set_option maxRecDepth 20000 in
theorem lc_X2_put : Cond.code yX2_put cX2_put 3 none ∈ WL := List.mem_of_getElem? (i := 141) (by decide +kernel)
set_option maxRecDepth 20000 in
theorem li_X2_put : Cond.instanceMethod yX2_put ∈ WL := List.mem_of_getElem? (i := 139) (by decide +kernel)
set_option maxRecDepth 20000 in
theorem ls_X2_put : Cond.selects RX2 yX2_put yX2_put ∈ WL := List.mem_of_getElem? (i := 140) (by decide +kernel)
set_option maxRecDepth 20000 in
theorem cw_X2_26 : CWV RX2 26 RX2 yX2_put cX2_put 3 none 2 := CWV.mk lk_X2_26 li_X2_put ls_X2_put lk_ini2 lc_X2_put (by decide +kernel)
set_option maxRecDepth 20000 in
theorem lk_X2_30 : Cond.methodLink RX2 30 Lib.Math.min.name ∈ WL := List.mem_of_getElem? (i := 200) (by decide +kernel)
set_option maxRecDepth 20000 in
theorem lk_X2_36 : Cond.methodLink RX2 36 arraycopyName ∈ WL := List.mem_of_getElem? (i := 204) (by decide +kernel)
set_option maxRecDepth 20000 in
theorem lk_X2_42 : Cond.methodLink RX2 42 yX2_addPart ∈ WL := List.mem_of_getElem? (i := 196) (by decide +kernel)
set_option maxRecDepth 20000 in
theorem lc_X2_addPart : Cond.code yX2_addPart cX2_addPart 5 none ∈ WL := List.mem_of_getElem? (i := 199) (by decide +kernel)
set_option maxRecDepth 20000 in
theorem li_X2_addPart : Cond.instanceMethod yX2_addPart ∈ WL := List.mem_of_getElem? (i := 197) (by decide +kernel)
set_option maxRecDepth 20000 in
theorem ls_X2_addPart : Cond.selects RX2 yX2_addPart yX2_addPart ∈ WL := List.mem_of_getElem? (i := 198) (by decide +kernel)
set_option maxRecDepth 20000 in
theorem cw_X2_42 : CWV RX2 42 RX2 yX2_addPart cX2_addPart 5 none 3 := CWV.mk lk_X2_42 li_X2_addPart ls_X2_addPart lk_ini2 lc_X2_addPart (by decide +kernel)
set_option maxRecDepth 20000 in
theorem lk_X2_46 : Cond.methodLink RX2 46 yX2_add ∈ WL := List.mem_of_getElem? (i := 769) (by decide +kernel)
set_option maxRecDepth 20000 in
theorem lc_X2_add : Cond.code yX2_add cX2_add 2 none ∈ WL := List.mem_of_getElem? (i := 133) (by decide +kernel)
set_option maxRecDepth 20000 in
theorem li_X2_add : Cond.instanceMethod yX2_add ∈ WL := List.mem_of_getElem? (i := 131) (by decide +kernel)
set_option maxRecDepth 20000 in
theorem ls_X2_add : Cond.selects RX2 yX2_add yX2_add ∈ WL := List.mem_of_getElem? (i := 132) (by decide +kernel)
set_option maxRecDepth 20000 in
theorem cw_X2_46 : CWV RX2 46 RX2 yX2_add cX2_add 2 none 1 := CWV.mk lk_X2_46 li_X2_add ls_X2_add lk_ini2 lc_X2_add (by decide +kernel)
set_option maxRecDepth 20000 in
theorem lk_X2_49 : Cond.methodLink RX2 49 yX2_get ∈ WL := List.mem_of_getElem? (i := 293) (by decide +kernel)
set_option maxRecDepth 20000 in
theorem lc_X2_get : Cond.code yX2_get cX2_get 2 (some .int) ∈ WL := List.mem_of_getElem? (i := 184) (by decide +kernel)
set_option maxRecDepth 20000 in
theorem li_X2_get : Cond.instanceMethod yX2_get ∈ WL := List.mem_of_getElem? (i := 182) (by decide +kernel)
set_option maxRecDepth 20000 in
theorem ls_X2_get : Cond.selects RX2 yX2_get yX2_get ∈ WL := List.mem_of_getElem? (i := 183) (by decide +kernel)
set_option maxRecDepth 20000 in
theorem cw_X2_49 : CWV RX2 49 RX2 yX2_get cX2_get 2 (some .int) 1 := CWV.mk lk_X2_49 li_X2_get ls_X2_get lk_ini2 lc_X2_get (by decide +kernel)
set_option maxRecDepth 20000 in
theorem lk_X5_3 : Cond.methodLink RX5 3 objectInit ∈ WL := List.mem_of_getElem? (i := 41) (by decide +kernel)
set_option maxRecDepth 20000 in
theorem lk_X5_9 : Cond.classLink RX5 9 RX2 ∈ WL := List.mem_of_getElem? (i := 42) (by decide +kernel)
set_option maxRecDepth 20000 in
theorem lk_X5_11 : Cond.methodLink RX5 11 yX2_init ∈ WL := List.mem_of_getElem? (i := 48) (by decide +kernel)
set_option maxRecDepth 20000 in
theorem lc_X2_init : Cond.code yX2_init cX2_init 2 none ∈ WL := List.mem_of_getElem? (i := 33) (by decide +kernel)
set_option maxRecDepth 20000 in
theorem li_X2_init : Cond.instanceMethod yX2_init ∈ WL := List.mem_of_getElem? (i := 32) (by decide +kernel)
set_option maxRecDepth 20000 in
theorem cw_X5_11 : CWI RX5 11 yX2_init cX2_init 2 1 := ⟨gCode lc_X2_init, lk_ini2, lk_X5_11, li_X2_init, rfl, by decide +kernel⟩
set_option maxRecDepth 20000 in
theorem lk_X5_14 : Cond.fieldLink RX5 14 "SnippetStops$Template" "codes" "LSnippetStops$Row;" ∈ WL := List.mem_of_getElem? (i := 43) (by decide +kernel)
set_option maxRecDepth 20000 in
theorem lk_X5_20 : Cond.classLink RX5 20 RX0 ∈ WL := List.mem_of_getElem? (i := 44) (by decide +kernel)
set_option maxRecDepth 20000 in
theorem lk_X5_22 : Cond.fieldLink RX5 22 "SnippetStops$Template" "occurrences" "[LSnippetStops$Occurrence;" ∈ WL := List.mem_of_getElem? (i := 45) (by decide +kernel)
set_option maxRecDepth 20000 in
theorem lk_X5_26 : Cond.fieldLink RX5 26 "SnippetStops$Template" "occurrenceCount" "I" ∈ WL := List.mem_of_getElem? (i := 46) (by decide +kernel)
set_option maxRecDepth 20000 in
theorem lk_X5_30 : Cond.fieldLink RX5 30 "SnippetStops$Template" "masters" "[LSnippetStops$Occurrence;" ∈ WL := List.mem_of_getElem? (i := 47) (by decide +kernel)
set_option maxRecDepth 20000 in
theorem lk_X5_58 : Cond.fieldLink RX5 58 "SnippetStops$Occurrence" "hasDefault" "Z" ∈ WL := List.mem_of_getElem? (i := 474) (by decide +kernel)
set_option maxRecDepth 20000 in
theorem lk_X5_62 : Cond.fieldLink RX5 62 "SnippetStops$Occurrence" "choices" "I" ∈ WL := List.mem_of_getElem? (i := 269) (by decide +kernel)
set_option maxRecDepth 20000 in
theorem lk_X5_65 : Cond.methodLink RX5 65 yX5_offerMaster ∈ WL := List.mem_of_getElem? (i := 476) (by decide +kernel)
set_option maxRecDepth 20000 in
theorem lk_X5_69 : Cond.fieldLink RX5 69 "SnippetStops$Occurrence" "rule" "I" ∈ WL := List.mem_of_getElem? (i := 475) (by decide +kernel)
set_option maxRecDepth 20000 in
theorem lk_X3_3 : Cond.methodLink RX3 3 objectInit ∈ WL := List.mem_of_getElem? (i := 67) (by decide +kernel)
set_option maxRecDepth 20000 in
theorem lk_X3_9 : Cond.fieldLink RX3 9 "SnippetStops$Session" "stop" "I" ∈ WL := List.mem_of_getElem? (i := 68) (by decide +kernel)
set_option maxRecDepth 20000 in
theorem lk_X3_15 : Cond.fieldLink RX3 15 "SnippetStops$Session" "fresh" "Z" ∈ WL := List.mem_of_getElem? (i := 69) (by decide +kernel)
set_option maxRecDepth 20000 in
theorem lk_X3_19 : Cond.fieldLink RX3 19 "SnippetStops$Session" "set" "[Z" ∈ WL := List.mem_of_getElem? (i := 71) (by decide +kernel)
set_option maxRecDepth 20000 in
theorem lk_X3_23 : Cond.classLink RX3 23 RX2 ∈ WL := List.mem_of_getElem? (i := 72) (by decide +kernel)
set_option maxRecDepth 20000 in
theorem lk_X3_25 : Cond.fieldLink RX3 25 "SnippetStops$Session" "setTo" "[LSnippetStops$Row;" ∈ WL := List.mem_of_getElem? (i := 73) (by decide +kernel)
set_option maxRecDepth 20000 in
theorem lk_X3_10 : Cond.classLink RX3 10 RX3 ∈ WL := List.mem_of_getElem? (i := 74) (by decide +kernel)
set_option maxRecDepth 20000 in
theorem lk_X3_29 : Cond.fieldLink RX3 29 "SnippetStops$Session" "before" "[LSnippetStops$Session;" ∈ WL := List.mem_of_getElem? (i := 75) (by decide +kernel)
set_option maxRecDepth 20000 in
theorem lk_X3_33 : Cond.fieldLink RX3 33 "SnippetStops$Session" "begins" "[I" ∈ WL := List.mem_of_getElem? (i := 77) (by decide +kernel)
set_option maxRecDepth 20000 in
theorem lk_X3_37 : Cond.fieldLink RX3 37 "SnippetStops$Session" "lengths" "[I" ∈ WL := List.mem_of_getElem? (i := 78) (by decide +kernel)
set_option maxRecDepth 20000 in
theorem lk_X3_40 : Cond.fieldLink RX3 40 "SnippetStops$Session" "template" "LSnippetStops$Template;" ∈ WL := List.mem_of_getElem? (i := 79) (by decide +kernel)
set_option maxRecDepth 20000 in
theorem lk_X3_44 : Cond.methodLink RX3 44 yX2_init ∈ WL := List.mem_of_getElem? (i := 80) (by decide +kernel)
set_option maxRecDepth 20000 in
theorem cw_X3_44 : CWI RX3 44 yX2_init cX2_init 2 1 := ⟨gCode lc_X2_init, lk_ini2, lk_X3_44, li_X2_init, rfl, by decide +kernel⟩
set_option maxRecDepth 20000 in
theorem lk_X3_51 : Cond.methodLink RX3 51 yX3_leastAbove ∈ WL := List.mem_of_getElem? (i := 494) (by decide +kernel)
set_option maxRecDepth 20000 in
theorem lc_X3_leastAbove : Cond.code yX3_leastAbove cX3_leastAbove 3 (some .int) ∈ WL := List.mem_of_getElem? (i := 497) (by decide +kernel)
set_option maxRecDepth 20000 in
theorem li_X3_leastAbove : Cond.instanceMethod yX3_leastAbove ∈ WL := List.mem_of_getElem? (i := 495) (by decide +kernel)
set_option maxRecDepth 20000 in
theorem ls_X3_leastAbove : Cond.selects RX3 yX3_leastAbove yX3_leastAbove ∈ WL := List.mem_of_getElem? (i := 496) (by decide +kernel)
set_option maxRecDepth 20000 in
theorem cw_X3_51 : CWV RX3 51 RX3 yX3_leastAbove cX3_leastAbove 3 (some .int) 1 := CWV.mk lk_X3_51 li_X3_leastAbove ls_X3_leastAbove lk_ini3 lc_X3_leastAbove (by decide +kernel)
set_option maxRecDepth 20000 in
theorem lk_X3_55 : Cond.methodLink RX3 55 yX3_comeTo ∈ WL := List.mem_of_getElem? (i := 507) (by decide +kernel)
set_option maxRecDepth 20000 in
theorem lc_X3_comeTo : Cond.code yX3_comeTo cX3_comeTo 2 none ∈ WL := List.mem_of_getElem? (i := 510) (by decide +kernel)
set_option maxRecDepth 20000 in
theorem li_X3_comeTo : Cond.instanceMethod yX3_comeTo ∈ WL := List.mem_of_getElem? (i := 508) (by decide +kernel)
set_option maxRecDepth 20000 in
theorem ls_X3_comeTo : Cond.selects RX3 yX3_comeTo yX3_comeTo ∈ WL := List.mem_of_getElem? (i := 509) (by decide +kernel)
set_option maxRecDepth 20000 in
theorem cw_X3_55 : CWV RX3 55 RX3 yX3_comeTo cX3_comeTo 2 none 1 := CWV.mk lk_X3_55 li_X3_comeTo ls_X3_comeTo lk_ini3 lc_X3_comeTo (by decide +kernel)
set_option maxRecDepth 20000 in
theorem lk_X3_89 : Cond.methodLink RX3 89 yX3_occurrencesThere ∈ WL := List.mem_of_getElem? (i := 498) (by decide +kernel)
set_option maxRecDepth 20000 in
theorem lc_X3_occurrencesThere : Cond.code yX3_occurrencesThere cX3_occurrencesThere 5 (some .int) ∈ WL := List.mem_of_getElem? (i := 501) (by decide +kernel)
set_option maxRecDepth 20000 in
theorem li_X3_occurrencesThere : Cond.instanceMethod yX3_occurrencesThere ∈ WL := List.mem_of_getElem? (i := 499) (by decide +kernel)
set_option maxRecDepth 20000 in
theorem ls_X3_occurrencesThere : Cond.selects RX3 yX3_occurrencesThere yX3_occurrencesThere ∈ WL := List.mem_of_getElem? (i := 500) (by decide +kernel)
set_option maxRecDepth 20000 in
theorem cw_X3_89 : CWV RX3 89 RX3 yX3_occurrencesThere cX3_occurrencesThere 5 (some .int) 1 := CWV.mk lk_X3_89 li_X3_occurrencesThere ls_X3_occurrencesThere lk_ini3 lc_X3_occurrencesThere (by decide +kernel)
set_option maxRecDepth 20000 in
theorem lk_X3_78 : Cond.methodLink RX3 78 yX5_size ∈ WL := List.mem_of_getElem? (i := 502) (by decide +kernel)
set_option maxRecDepth 20000 in
theorem lc_X5_size : Cond.code yX5_size cX5_size 1 (some .int) ∈ WL := List.mem_of_getElem? (i := 505) (by decide +kernel)
set_option maxRecDepth 20000 in
theorem li_X5_size : Cond.instanceMethod yX5_size ∈ WL := List.mem_of_getElem? (i := 503) (by decide +kernel)
set_option maxRecDepth 20000 in
theorem ls_X5_size : Cond.selects RX5 yX5_size yX5_size ∈ WL := List.mem_of_getElem? (i := 504) (by decide +kernel)
set_option maxRecDepth 20000 in
theorem cw_X3_78 : CWV RX3 78 RX5 yX5_size cX5_size 1 (some .int) 0 := CWV.mk lk_X3_78 li_X5_size ls_X5_size lk_ini5 lc_X5_size (by decide +kernel)
set_option maxRecDepth 20000 in
theorem lk_X3_82 : Cond.methodLink RX3 82 yX5_get ∈ WL := List.mem_of_getElem? (i := 506) (by decide +kernel)
set_option maxRecDepth 20000 in
theorem lk_X3_74 : Cond.fieldLink RX3 74 "SnippetStops$Occurrence" "stop" "I" ∈ WL := List.mem_of_getElem? (i := 276) (by decide +kernel)
set_option maxRecDepth 20000 in
theorem lk_X3_86 : Cond.methodLink RX3 86 yX3_isThere ∈ WL := List.mem_of_getElem? (i := 308) (by decide +kernel)
set_option maxRecDepth 20000 in
theorem lk_X3_139 : Cond.methodLink RX3 139 yX3_putItems ∈ WL := List.mem_of_getElem? (i := 229) (by decide +kernel)
set_option maxRecDepth 20000 in
theorem lc_X3_putItems : Cond.code yX3_putItems cX3_putItems 11 none ∈ WL := List.mem_of_getElem? (i := 232) (by decide +kernel)
set_option maxRecDepth 20000 in
theorem li_X3_putItems : Cond.instanceMethod yX3_putItems ∈ WL := List.mem_of_getElem? (i := 230) (by decide +kernel)
set_option maxRecDepth 20000 in
theorem ls_X3_putItems : Cond.selects RX3 yX3_putItems yX3_putItems ∈ WL := List.mem_of_getElem? (i := 231) (by decide +kernel)
set_option maxRecDepth 20000 in
theorem cw_X3_139 : CWV RX3 139 RX3 yX3_putItems cX3_putItems 11 none 5 := CWV.mk lk_X3_139 li_X3_putItems ls_X3_putItems lk_ini3 lc_X3_putItems (by decide +kernel)
set_option maxRecDepth 20000 in
theorem lk_X3_143 : Cond.fieldLink RX3 143 "SnippetStops$Occurrence" "begin" "I" ∈ WL := List.mem_of_getElem? (i := 233) (by decide +kernel)
set_option maxRecDepth 20000 in
theorem lk_X3_146 : Cond.fieldLink RX3 146 "SnippetStops$Template" "codes" "LSnippetStops$Row;" ∈ WL := List.mem_of_getElem? (i := 234) (by decide +kernel)
set_option maxRecDepth 20000 in
theorem lk_X3_104 : Cond.methodLink RX3 104 yX2_size ∈ WL := List.mem_of_getElem? (i := 239) (by decide +kernel)
set_option maxRecDepth 20000 in
theorem lc_X2_size : Cond.code yX2_size cX2_size 1 (some .int) ∈ WL := List.mem_of_getElem? (i := 129) (by decide +kernel)
set_option maxRecDepth 20000 in
theorem li_X2_size : Cond.instanceMethod yX2_size ∈ WL := List.mem_of_getElem? (i := 127) (by decide +kernel)
set_option maxRecDepth 20000 in
theorem ls_X2_size : Cond.selects RX2 yX2_size yX2_size ∈ WL := List.mem_of_getElem? (i := 128) (by decide +kernel)
set_option maxRecDepth 20000 in
theorem cw_X3_104 : CWV RX3 104 RX2 yX2_size cX2_size 1 (some .int) 0 := CWV.mk lk_X3_104 li_X2_size ls_X2_size lk_ini2 lc_X2_size (by decide +kernel)
set_option maxRecDepth 20000 in
theorem lk_X3_150 : Cond.fieldLink RX3 150 "SnippetStops$Occurrence" "end" "I" ∈ WL := List.mem_of_getElem? (i := 235) (by decide +kernel)
set_option maxRecDepth 20000 in
theorem lk_X3_153 : Cond.methodLink RX3 153 yX2_get ∈ WL := List.mem_of_getElem? (i := 240) (by decide +kernel)
set_option maxRecDepth 20000 in
theorem cw_X3_153 : CWV RX3 153 RX2 yX2_get cX2_get 2 (some .int) 1 := CWV.mk lk_X3_153 li_X2_get ls_X2_get lk_ini2 lc_X2_get (by decide +kernel)
set_option maxRecDepth 20000 in
theorem lk_X3_155 : Cond.methodLink RX3 155 yX5_fromCode ∈ WL := List.mem_of_getElem? (i := 241) (by decide +kernel)
set_option maxRecDepth 20000 in
theorem lk_X3_101 : Cond.methodLink RX3 101 yX2_add ∈ WL := List.mem_of_getElem? (i := 249) (by decide +kernel)
set_option maxRecDepth 20000 in
theorem cw_X3_101 : CWV RX3 101 RX2 yX2_add cX2_add 2 none 1 := CWV.mk lk_X3_101 li_X2_add ls_X2_add lk_ini2 lc_X2_add (by decide +kernel)
set_option maxRecDepth 20000 in
theorem lk_X3_158 : Cond.methodLink RX3 158 yX3_putOccurrence ∈ WL := List.mem_of_getElem? (i := 250) (by decide +kernel)
set_option maxRecDepth 20000 in
theorem lk_X3_161 : Cond.methodLink RX3 161 Lib.Math.max.name ∈ WL := List.mem_of_getElem? (i := 236) (by decide +kernel)
set_option maxRecDepth 20000 in
theorem lk_X4_3 : Cond.methodLink RX4 3 objectInit ∈ WL := List.mem_of_getElem? (i := 52) (by decide +kernel)
set_option maxRecDepth 20000 in
theorem lk_X4_9 : Cond.classLink RX4 9 RX2 ∈ WL := List.mem_of_getElem? (i := 53) (by decide +kernel)
set_option maxRecDepth 20000 in
theorem lk_X4_11 : Cond.methodLink RX4 11 yX2_init ∈ WL := List.mem_of_getElem? (i := 63) (by decide +kernel)
set_option maxRecDepth 20000 in
theorem cw_X4_11 : CWI RX4 11 yX2_init cX2_init 2 1 := ⟨gCode lc_X2_init, lk_ini2, lk_X4_11, li_X2_init, rfl, by decide +kernel⟩
set_option maxRecDepth 20000 in
theorem lk_X4_14 : Cond.fieldLink RX4 14 "SnippetStops$State" "plain" "LSnippetStops$Row;" ∈ WL := List.mem_of_getElem? (i := 54) (by decide +kernel)
set_option maxRecDepth 20000 in
theorem lk_X4_20 : Cond.fieldLink RX4 20 "SnippetStops$State" "caret" "I" ∈ WL := List.mem_of_getElem? (i := 55) (by decide +kernel)
set_option maxRecDepth 20000 in
theorem lk_X4_24 : Cond.fieldLink RX4 24 "SnippetStops$State" "variables" "[LSnippetStops$Row;" ∈ WL := List.mem_of_getElem? (i := 56) (by decide +kernel)
set_option maxRecDepth 20000 in
theorem lk_X4_28 : Cond.classLink RX4 28 RX3 ∈ WL := List.mem_of_getElem? (i := 57) (by decide +kernel)
set_option maxRecDepth 20000 in
theorem lk_X4_30 : Cond.fieldLink RX4 30 "SnippetStops$State" "sessions" "[LSnippetStops$Session;" ∈ WL := List.mem_of_getElem? (i := 58) (by decide +kernel)
set_option maxRecDepth 20000 in
theorem lk_X4_34 : Cond.fieldLink RX4 34 "SnippetStops$State" "open" "I" ∈ WL := List.mem_of_getElem? (i := 59) (by decide +kernel)
set_option maxRecDepth 20000 in
theorem lk_X4_37 : Cond.fieldLink RX4 37 "SnippetStops$State" "shown" "LSnippetStops$Row;" ∈ WL := List.mem_of_getElem? (i := 60) (by decide +kernel)
set_option maxRecDepth 20000 in
theorem lk_X4_40 : Cond.methodLink RX4 40 yX3_init ∈ WL := List.mem_of_getElem? (i := 64) (by decide +kernel)
set_option maxRecDepth 20000 in
theorem lc_X3_init : Cond.code yX3_init cX3_init 3 none ∈ WL := List.mem_of_getElem? (i := 66) (by decide +kernel)
set_option maxRecDepth 20000 in
theorem li_X3_init : Cond.instanceMethod yX3_init ∈ WL := List.mem_of_getElem? (i := 65) (by decide +kernel)
set_option maxRecDepth 20000 in
theorem cw_X4_40 : CWI RX4 40 yX3_init cX3_init 3 1 := ⟨gCode lc_X3_init, lk_ini3, lk_X4_40, li_X3_init, rfl, by decide +kernel⟩
set_option maxRecDepth 20000 in
theorem lk_X4_43 : Cond.methodLink RX4 43 yX2_copyOf ∈ WL := List.mem_of_getElem? (i := 192) (by decide +kernel)
set_option maxRecDepth 20000 in
theorem lc_X2_copyOf : Cond.code yX2_copyOf cX2_copyOf 2 none ∈ WL := List.mem_of_getElem? (i := 195) (by decide +kernel)
set_option maxRecDepth 20000 in
theorem li_X2_copyOf : Cond.instanceMethod yX2_copyOf ∈ WL := List.mem_of_getElem? (i := 193) (by decide +kernel)
set_option maxRecDepth 20000 in
theorem ls_X2_copyOf : Cond.selects RX2 yX2_copyOf yX2_copyOf ∈ WL := List.mem_of_getElem? (i := 194) (by decide +kernel)
set_option maxRecDepth 20000 in
theorem cw_X4_43 : CWV RX4 43 RX2 yX2_copyOf cX2_copyOf 2 none 1 := CWV.mk lk_X4_43 li_X2_copyOf ls_X2_copyOf lk_ini2 lc_X2_copyOf (by decide +kernel)
set_option maxRecDepth 20000 in
theorem lk_X4_47 : Cond.methodLink RX4 47 yX3_copyOf ∈ WL := List.mem_of_getElem? (i := 208) (by decide +kernel)
set_option maxRecDepth 20000 in
theorem lk_X4_50 : Cond.methodLink RX4 50 yX3_begin ∈ WL := List.mem_of_getElem? (i := 490) (by decide +kernel)
set_option maxRecDepth 20000 in
theorem lc_X3_begin : Cond.code yX3_begin cX3_begin 3 none ∈ WL := List.mem_of_getElem? (i := 493) (by decide +kernel)
set_option maxRecDepth 20000 in
theorem li_X3_begin : Cond.instanceMethod yX3_begin ∈ WL := List.mem_of_getElem? (i := 491) (by decide +kernel)
set_option maxRecDepth 20000 in
theorem ls_X3_begin : Cond.selects RX3 yX3_begin yX3_begin ∈ WL := List.mem_of_getElem? (i := 492) (by decide +kernel)
set_option maxRecDepth 20000 in
theorem cw_X4_50 : CWV RX4 50 RX3 yX3_begin cX3_begin 3 none 1 := CWV.mk lk_X4_50 li_X3_begin ls_X3_begin lk_ini3 lc_X3_begin (by decide +kernel)
set_option maxRecDepth 20000 in
theorem lk_X4_53 : Cond.fieldLink RX4 53 "SnippetStops$Session" "stop" "I" ∈ WL := List.mem_of_getElem? (i := 223) (by decide +kernel)
set_option maxRecDepth 20000 in
theorem lk_X4_56 : Cond.methodLink RX4 56 yX4_uppermost ∈ WL := List.mem_of_getElem? (i := 516) (by decide +kernel)
set_option maxRecDepth 20000 in
theorem lc_X4_uppermost : Cond.code yX4_uppermost cX4_uppermost 1 (some (.object "SnippetStops$Session")) ∈ WL := List.mem_of_getElem? (i := 519) (by decide +kernel)
set_option maxRecDepth 20000 in
theorem li_X4_uppermost : Cond.instanceMethod yX4_uppermost ∈ WL := List.mem_of_getElem? (i := 517) (by decide +kernel)
set_option maxRecDepth 20000 in
theorem ls_X4_uppermost : Cond.selects RX4 yX4_uppermost yX4_uppermost ∈ WL := List.mem_of_getElem? (i := 518) (by decide +kernel)
set_option maxRecDepth 20000 in
theorem cw_X4_56 : CWV RX4 56 RX4 yX4_uppermost cX4_uppermost 1 (some (.object "SnippetStops$Session")) 0 := CWV.mk lk_X4_56 li_X4_uppermost ls_X4_uppermost lk_ini4 lc_X4_uppermost (by decide +kernel)
set_option maxRecDepth 20000 in
theorem lk_X4_63 : Cond.methodLink RX4 63 yX4_settle ∈ WL := List.mem_of_getElem? (i := 520) (by decide +kernel)
set_option maxRecDepth 20000 in
theorem lc_X4_settle : Cond.code yX4_settle cX4_settle 3 (some .boolean) ∈ WL := List.mem_of_getElem? (i := 221) (by decide +kernel)
set_option maxRecDepth 20000 in
theorem li_X4_settle : Cond.instanceMethod yX4_settle ∈ WL := List.mem_of_getElem? (i := 219) (by decide +kernel)
set_option maxRecDepth 20000 in
theorem ls_X4_settle : Cond.selects RX4 yX4_settle yX4_settle ∈ WL := List.mem_of_getElem? (i := 220) (by decide +kernel)
set_option maxRecDepth 20000 in
theorem cw_X4_63 : CWV RX4 63 RX4 yX4_settle cX4_settle 3 (some .boolean) 0 := CWV.mk lk_X4_63 li_X4_settle ls_X4_settle lk_ini4 lc_X4_settle (by decide +kernel)
set_option maxRecDepth 20000 in
theorem lk_X4_67 : Cond.fieldLink RX4 67 "SnippetStops$Session" "fresh" "Z" ∈ WL := List.mem_of_getElem? (i := 515) (by decide +kernel)
set_option maxRecDepth 20000 in
theorem lk_X4_71 : Cond.methodLink RX4 71 yX3_findThere ∈ WL := List.mem_of_getElem? (i := 521) (by decide +kernel)
set_option maxRecDepth 20000 in
theorem lc_X3_findThere : Cond.code yX3_findThere cX3_findThere 6 (some (.object "SnippetStops$Occurrence")) ∈ WL := List.mem_of_getElem? (i := 524) (by decide +kernel)
set_option maxRecDepth 20000 in
theorem li_X3_findThere : Cond.instanceMethod yX3_findThere ∈ WL := List.mem_of_getElem? (i := 522) (by decide +kernel)
set_option maxRecDepth 20000 in
theorem ls_X3_findThere : Cond.selects RX3 yX3_findThere yX3_findThere ∈ WL := List.mem_of_getElem? (i := 523) (by decide +kernel)
set_option maxRecDepth 20000 in
theorem cw_X4_71 : CWV RX4 71 RX3 yX3_findThere cX3_findThere 6 (some (.object "SnippetStops$Occurrence")) 2 := CWV.mk lk_X4_71 li_X3_findThere ls_X3_findThere lk_ini3 lc_X3_findThere (by decide +kernel)
set_option maxRecDepth 20000 in
theorem lk_X4_75 : Cond.methodLink RX4 75 yX2_size ∈ WL := List.mem_of_getElem? (i := 303) (by decide +kernel)
set_option maxRecDepth 20000 in
theorem cw_X4_75 : CWV RX4 75 RX2 yX2_size cX2_size 1 (some .int) 0 := CWV.mk lk_X4_75 li_X2_size ls_X2_size lk_ini2 lc_X2_size (by decide +kernel)
set_option maxRecDepth 20000 in
theorem lk_X4_79 : Cond.methodLink RX4 79 yX3_beginOf ∈ WL := List.mem_of_getElem? (i := 525) (by decide +kernel)
set_option maxRecDepth 20000 in
theorem lk_X4_83 : Cond.methodLink RX4 83 yX2_insert ∈ WL := List.mem_of_getElem? (i := 765) (by decide +kernel)
set_option maxRecDepth 20000 in
theorem lc_X2_insert : Cond.code yX2_insert cX2_insert 4 none ∈ WL := List.mem_of_getElem? (i := 768) (by decide +kernel)
set_option maxRecDepth 20000 in
theorem li_X2_insert : Cond.instanceMethod yX2_insert ∈ WL := List.mem_of_getElem? (i := 766) (by decide +kernel)
set_option maxRecDepth 20000 in
theorem ls_X2_insert : Cond.selects RX2 yX2_insert yX2_insert ∈ WL := List.mem_of_getElem? (i := 767) (by decide +kernel)
set_option maxRecDepth 20000 in
theorem cw_X4_83 : CWV RX4 83 RX2 yX2_insert cX2_insert 4 none 2 := CWV.mk lk_X4_83 li_X2_insert ls_X2_insert lk_ini2 lc_X2_insert (by decide +kernel)
set_option maxRecDepth 20000 in
theorem lk_X4_90 : Cond.methodLink RX4 90 Lib.Math.min.name ∈ WL := List.mem_of_getElem? (i := 222) (by decide +kernel)
set_option maxRecDepth 20000 in
theorem lk_X4_99 : Cond.methodLink RX4 99 yX2_empty ∈ WL := List.mem_of_getElem? (i := 224) (by decide +kernel)
set_option maxRecDepth 20000 in
theorem lc_X2_empty : Cond.code yX2_empty cX2_empty 1 none ∈ WL := List.mem_of_getElem? (i := 165) (by decide +kernel)
set_option maxRecDepth 20000 in
theorem li_X2_empty : Cond.instanceMethod yX2_empty ∈ WL := List.mem_of_getElem? (i := 163) (by decide +kernel)
set_option maxRecDepth 20000 in
theorem ls_X2_empty : Cond.selects RX2 yX2_empty yX2_empty ∈ WL := List.mem_of_getElem? (i := 164) (by decide +kernel)
set_option maxRecDepth 20000 in
theorem cw_X4_99 : CWV RX4 99 RX2 yX2_empty cX2_empty 1 none 0 := CWV.mk lk_X4_99 li_X2_empty ls_X2_empty lk_ini2 lc_X2_empty (by decide +kernel)
set_option maxRecDepth 20000 in
theorem lk_X4_102 : Cond.methodLink RX4 102 yX3_layOut ∈ WL := List.mem_of_getElem? (i := 225) (by decide +kernel)
set_option maxRecDepth 20000 in
theorem lc_X3_layOut : Cond.code yX3_layOut cX3_layOut 2 none ∈ WL := List.mem_of_getElem? (i := 228) (by decide +kernel)
set_option maxRecDepth 20000 in
theorem li_X3_layOut : Cond.instanceMethod yX3_layOut ∈ WL := List.mem_of_getElem? (i := 226) (by decide +kernel)
set_option maxRecDepth 20000 in
theorem ls_X3_layOut : Cond.selects RX3 yX3_layOut yX3_layOut ∈ WL := List.mem_of_getElem? (i := 227) (by decide +kernel)
set_option maxRecDepth 20000 in
theorem cw_X4_102 : CWV RX4 102 RX3 yX3_layOut cX3_layOut 2 none 1 := CWV.mk lk_X4_102 li_X3_layOut ls_X3_layOut lk_ini3 lc_X3_layOut (by decide +kernel)
set_option maxRecDepth 20000 in
theorem lk_X4_105 : Cond.methodLink RX4 105 yX3_markSet ∈ WL := List.mem_of_getElem? (i := 304) (by decide +kernel)
set_option maxRecDepth 20000 in
theorem lk_X4_108 : Cond.methodLink RX4 108 yX3_replaceSet ∈ WL := List.mem_of_getElem? (i := 329) (by decide +kernel)
set_option maxRecDepth 20000 in
theorem lk_X4_112 : Cond.methodLink RX4 112 yX2_addPart ∈ WL := List.mem_of_getElem? (i := 333) (by decide +kernel)
set_option maxRecDepth 20000 in
theorem cw_X4_112 : CWV RX4 112 RX2 yX2_addPart cX2_addPart 5 none 3 := CWV.mk lk_X4_112 li_X2_addPart ls_X2_addPart lk_ini2 lc_X2_addPart (by decide +kernel)
set_option maxRecDepth 20000 in
theorem lk_X1_3 : Cond.methodLink RX1 3 objectInit ∈ WL := List.mem_of_getElem? (i := 377) (by decide +kernel)
set_option maxRecDepth 20000 in
theorem lk_X1_9 : Cond.classLink RX1 9 RX5 ∈ WL := List.mem_of_getElem? (i := 378) (by decide +kernel)
set_option maxRecDepth 20000 in
theorem lk_X1_12 : Cond.fieldLink RX1 12 "SnippetStops$Reader" "template" "LSnippetStops$Template;" ∈ WL := List.mem_of_getElem? (i := 379) (by decide +kernel)
set_option maxRecDepth 20000 in
theorem lk_X1_18 : Cond.fieldLink RX1 18 "SnippetStops$Reader" "mode" "I" ∈ WL := List.mem_of_getElem? (i := 380) (by decide +kernel)
set_option maxRecDepth 20000 in
theorem lk_X1_22 : Cond.fieldLink RX1 22 "SnippetStops$Reader" "place" "I" ∈ WL := List.mem_of_getElem? (i := 381) (by decide +kernel)
set_option maxRecDepth 20000 in
theorem lk_X1_25 : Cond.fieldLink RX1 25 "SnippetStops$Reader" "fault" "I" ∈ WL := List.mem_of_getElem? (i := 382) (by decide +kernel)
set_option maxRecDepth 20000 in
theorem lk_X1_28 : Cond.fieldLink RX1 28 "SnippetStops$Reader" "number" "I" ∈ WL := List.mem_of_getElem? (i := 383) (by decide +kernel)
set_option maxRecDepth 20000 in
theorem lk_X1_31 : Cond.fieldLink RX1 31 "SnippetStops$Reader" "latest" "LSnippetStops$Occurrence;" ∈ WL := List.mem_of_getElem? (i := 384) (by decide +kernel)
set_option maxRecDepth 20000 in
theorem lk_X1_35 : Cond.fieldLink RX1 35 "SnippetStops$Reader" "within" "LSnippetStops$Occurrence;" ∈ WL := List.mem_of_getElem? (i := 385) (by decide +kernel)
set_option maxRecDepth 20000 in
theorem lk_X1_38 : Cond.fieldLink RX1 38 "SnippetStops$Reader" "deep" "I" ∈ WL := List.mem_of_getElem? (i := 386) (by decide +kernel)
set_option maxRecDepth 20000 in
theorem lk_X1_41 : Cond.fieldLink RX1 41 "SnippetStops$Reader" "text" "LSnippetStops$Row;" ∈ WL := List.mem_of_getElem? (i := 387) (by decide +kernel)
set_option maxRecDepth 20000 in
theorem lk_X1_45 : Cond.fieldLink RX1 45 "SnippetStops$Reader" "variables" "[LSnippetStops$Row;" ∈ WL := List.mem_of_getElem? (i := 388) (by decide +kernel)
set_option maxRecDepth 20000 in
theorem lk_X1_49 : Cond.methodLink RX1 49 yX2_size ∈ WL := List.mem_of_getElem? (i := 393) (by decide +kernel)
set_option maxRecDepth 20000 in
theorem cw_X1_49 : CWV RX1 49 RX2 yX2_size cX2_size 1 (some .int) 0 := CWV.mk lk_X1_49 li_X2_size ls_X2_size lk_ini2 lc_X2_size (by decide +kernel)
set_option maxRecDepth 20000 in
theorem lk_X1_55 : Cond.methodLink RX1 55 yX2_get ∈ WL := List.mem_of_getElem? (i := 394) (by decide +kernel)
set_option maxRecDepth 20000 in
theorem cw_X1_55 : CWV RX1 55 RX2 yX2_get cX2_get 2 (some .int) 1 := CWV.mk lk_X1_55 li_X2_get ls_X2_get lk_ini2 lc_X2_get (by decide +kernel)
set_option maxRecDepth 20000 in
theorem lk_X1_59 : Cond.methodLink RX1 59 yX1_take ∈ WL := List.mem_of_getElem? (i := 395) (by decide +kernel)
set_option maxRecDepth 20000 in
theorem lk_X1_63 : Cond.methodLink RX1 63 yX5_settleMasters ∈ WL := List.mem_of_getElem? (i := 470) (by decide +kernel)
set_option maxRecDepth 20000 in
theorem lc_X5_settleMasters : Cond.code yX5_settleMasters cX5_settleMasters 3 none ∈ WL := List.mem_of_getElem? (i := 473) (by decide +kernel)
set_option maxRecDepth 20000 in
theorem li_X5_settleMasters : Cond.instanceMethod yX5_settleMasters ∈ WL := List.mem_of_getElem? (i := 471) (by decide +kernel)
set_option maxRecDepth 20000 in
theorem ls_X5_settleMasters : Cond.selects RX5 yX5_settleMasters yX5_settleMasters ∈ WL := List.mem_of_getElem? (i := 472) (by decide +kernel)
set_option maxRecDepth 20000 in
theorem cw_X1_63 : CWV RX1 63 RX5 yX5_settleMasters cX5_settleMasters 3 none 0 := CWV.mk lk_X1_63 li_X5_settleMasters ls_X5_settleMasters lk_ini5 lc_X5_settleMasters (by decide +kernel)
set_option maxRecDepth 20000 in
theorem lk_X6_3 : Cond.methodLink RX6 3 objectInit ∈ WL := List.mem_of_getElem? (i := 9) (by decide +kernel)
set_option maxRecDepth 20000 in
theorem lk_X6_9 : Cond.classLink RX6 9 RX2 ∈ WL := List.mem_of_getElem? (i := 12) (by decide +kernel)
set_option maxRecDepth 20000 in
theorem lk_X6_11 : Cond.methodLink RX6 11 yX2_init ∈ WL := List.mem_of_getElem? (i := 31) (by decide +kernel)
set_option maxRecDepth 20000 in
theorem cw_X6_11 : CWI RX6 11 yX2_init cX2_init 2 1 := ⟨gCode lc_X2_init, lk_ini2, lk_X6_11, li_X2_init, rfl, by decide +kernel⟩
set_option maxRecDepth 20000 in
theorem lk_X6_14 : Cond.fieldLink RX6 14 "SnippetStops" "text" "LSnippetStops$Row;" ∈ WL := List.mem_of_getElem? (i := 15) (by decide +kernel)
set_option maxRecDepth 20000 in
theorem lk_X6_18 : Cond.constant RX6 18 (65536) ∈ WL := List.mem_of_getElem? (i := 16) (by decide +kernel)
set_option maxRecDepth 20000 in
theorem lk_X6_19 : Cond.fieldLink RX6 19 "SnippetStops" "looked" "LSnippetStops$Row;" ∈ WL := List.mem_of_getElem? (i := 17) (by decide +kernel)
set_option maxRecDepth 20000 in
theorem lk_X6_22 : Cond.classLink RX6 22 RX4 ∈ WL := List.mem_of_getElem? (i := 18) (by decide +kernel)
set_option maxRecDepth 20000 in
theorem lk_X6_24 : Cond.fieldLink RX6 24 "SnippetStops" "past" "[LSnippetStops$State;" ∈ WL := List.mem_of_getElem? (i := 19) (by decide +kernel)
set_option maxRecDepth 20000 in
theorem lk_X6_28 : Cond.fieldLink RX6 28 "SnippetStops" "pastCount" "I" ∈ WL := List.mem_of_getElem? (i := 20) (by decide +kernel)
set_option maxRecDepth 20000 in
theorem lk_X6_32 : Cond.fieldLink RX6 32 "SnippetStops" "badCount" "I" ∈ WL := List.mem_of_getElem? (i := 21) (by decide +kernel)
set_option maxRecDepth 20000 in
theorem lk_X6_35 : Cond.fieldLink RX6 35 "SnippetStops" "noCount" "I" ∈ WL := List.mem_of_getElem? (i := 22) (by decide +kernel)
set_option maxRecDepth 20000 in
theorem lk_X6_38 : Cond.fieldLink RX6 38 "SnippetStops" "fullCount" "I" ∈ WL := List.mem_of_getElem? (i := 23) (by decide +kernel)
set_option maxRecDepth 20000 in
theorem lk_X6_41 : Cond.classLink RX6 41 RX5 ∈ WL := List.mem_of_getElem? (i := 24) (by decide +kernel)
set_option maxRecDepth 20000 in
theorem lk_X6_44 : Cond.methodLink RX6 44 yX4_init ∈ WL := List.mem_of_getElem? (i := 49) (by decide +kernel)
set_option maxRecDepth 20000 in
theorem lc_X4_init : Cond.code yX4_init cX4_init 3 none ∈ WL := List.mem_of_getElem? (i := 51) (by decide +kernel)
set_option maxRecDepth 20000 in
theorem li_X4_init : Cond.instanceMethod yX4_init ∈ WL := List.mem_of_getElem? (i := 50) (by decide +kernel)
set_option maxRecDepth 20000 in
theorem cw_X6_44 : CWI RX6 44 yX4_init cX4_init 3 1 := ⟨gCode lc_X4_init, lk_ini4, lk_X6_44, li_X4_init, rfl, by decide +kernel⟩
set_option maxRecDepth 20000 in
theorem lk_X6_47 : Cond.fieldLink RX6 47 "SnippetStops" "now" "LSnippetStops$State;" ∈ WL := List.mem_of_getElem? (i := 29) (by decide +kernel)
set_option maxRecDepth 20000 in
theorem lk_X6_51 : Cond.fieldLink RX6 51 "SnippetStops" "draft" "LSnippetStops$State;" ∈ WL := List.mem_of_getElem? (i := 30) (by decide +kernel)
set_option maxRecDepth 20000 in
theorem lk_X6_54 : Cond.methodLink RX6 54 yX6_refuse ∈ WL := List.mem_of_getElem? (i := 122) (by decide +kernel)
set_option maxRecDepth 20000 in
theorem lc_X6_refuse : Cond.code yX6_refuse cX6_refuse 2 (some .int) ∈ WL := List.mem_of_getElem? (i := 125) (by decide +kernel)
set_option maxRecDepth 20000 in
theorem li_X6_refuse : Cond.instanceMethod yX6_refuse ∈ WL := List.mem_of_getElem? (i := 123) (by decide +kernel)
set_option maxRecDepth 20000 in
theorem ls_X6_refuse : Cond.selects RX6 yX6_refuse yX6_refuse ∈ WL := List.mem_of_getElem? (i := 124) (by decide +kernel)
set_option maxRecDepth 20000 in
theorem cw_X6_54 : CWV RX6 54 RX6 yX6_refuse cX6_refuse 2 (some .int) 1 := CWV.mk lk_X6_54 li_X6_refuse ls_X6_refuse lk_ini6 lc_X6_refuse (by decide +kernel)
set_option maxRecDepth 20000 in
theorem lk_X6_58 : Cond.methodLink RX6 58 yX2_size ∈ WL := List.mem_of_getElem? (i := 126) (by decide +kernel)
set_option maxRecDepth 20000 in
theorem cw_X6_58 : CWV RX6 58 RX2 yX2_size cX2_size 1 (some .int) 0 := CWV.mk lk_X6_58 li_X2_size ls_X2_size lk_ini2 lc_X2_size (by decide +kernel)
set_option maxRecDepth 20000 in
theorem lk_X6_62 : Cond.methodLink RX6 62 yX2_add ∈ WL := List.mem_of_getElem? (i := 130) (by decide +kernel)
set_option maxRecDepth 20000 in
theorem cw_X6_62 : CWV RX6 62 RX2 yX2_add cX2_add 2 none 1 := CWV.mk lk_X6_62 li_X2_add ls_X2_add lk_ini2 lc_X2_add (by decide +kernel)
set_option maxRecDepth 20000 in
theorem lk_X6_65 : Cond.methodLink RX6 65 yX2_empty ∈ WL := List.mem_of_getElem? (i := 162) (by decide +kernel)
set_option maxRecDepth 20000 in
theorem cw_X6_65 : CWV RX6 65 RX2 yX2_empty cX2_empty 1 none 0 := CWV.mk lk_X6_65 li_X2_empty ls_X2_empty lk_ini2 lc_X2_empty (by decide +kernel)
set_option maxRecDepth 20000 in
theorem lk_X6_68 : Cond.methodLink RX6 68 yX6_isVariable ∈ WL := List.mem_of_getElem? (i := 175) (by decide +kernel)
set_option maxRecDepth 20000 in
theorem lc_X6_isVariable : Cond.code yX6_isVariable cX6_isVariable 1 (some .boolean) ∈ WL := List.mem_of_getElem? (i := 177) (by decide +kernel)
set_option maxRecDepth 20000 in
theorem lt_X6_isVariable : Cond.static yX6_isVariable ∈ WL := List.mem_of_getElem? (i := 176) (by decide +kernel)
set_option maxRecDepth 20000 in
theorem cw_X6_68 : CWS RX6 68 yX6_isVariable cX6_isVariable 1 (some .boolean) 1 := CWS.mk lk_X6_68 lt_X6_isVariable lk_ini6 lc_X6_isVariable (by decide +kernel)
set_option maxRecDepth 20000 in
theorem lk_X6_72 : Cond.methodLink RX6 72 yX6_canBeVariable ∈ WL := List.mem_of_getElem? (i := 178) (by decide +kernel)
set_option maxRecDepth 20000 in
theorem lc_X6_canBeVariable : Cond.code yX6_canBeVariable cX6_canBeVariable 2 (some .boolean) ∈ WL := List.mem_of_getElem? (i := 180) (by decide +kernel)
set_option maxRecDepth 20000 in
theorem lt_X6_canBeVariable : Cond.static yX6_canBeVariable ∈ WL := List.mem_of_getElem? (i := 179) (by decide +kernel)
set_option maxRecDepth 20000 in
theorem cw_X6_72 : CWS RX6 72 yX6_canBeVariable cX6_canBeVariable 2 (some .boolean) 1 := CWS.mk lk_X6_72 lt_X6_canBeVariable lk_ini6 lc_X6_canBeVariable (by decide +kernel)
set_option maxRecDepth 20000 in
theorem lk_X6_76 : Cond.methodLink RX6 76 yX4_copyOf ∈ WL := List.mem_of_getElem? (i := 188) (by decide +kernel)
set_option maxRecDepth 20000 in
theorem lc_X4_copyOf : Cond.code yX4_copyOf cX4_copyOf 3 none ∈ WL := List.mem_of_getElem? (i := 191) (by decide +kernel)
set_option maxRecDepth 20000 in
theorem li_X4_copyOf : Cond.instanceMethod yX4_copyOf ∈ WL := List.mem_of_getElem? (i := 189) (by decide +kernel)
set_option maxRecDepth 20000 in
theorem ls_X4_copyOf : Cond.selects RX4 yX4_copyOf yX4_copyOf ∈ WL := List.mem_of_getElem? (i := 190) (by decide +kernel)
set_option maxRecDepth 20000 in
theorem cw_X6_76 : CWV RX6 76 RX4 yX4_copyOf cX4_copyOf 3 none 1 := CWV.mk lk_X6_76 li_X4_copyOf ls_X4_copyOf lk_ini4 lc_X4_copyOf (by decide +kernel)
set_option maxRecDepth 20000 in
theorem lk_X6_80 : Cond.fieldLink RX6 80 "SnippetStops$State" "variables" "[LSnippetStops$Row;" ∈ WL := List.mem_of_getElem? (i := 174) (by decide +kernel)
set_option maxRecDepth 20000 in
theorem lk_X6_84 : Cond.methodLink RX6 84 yX2_copyOf ∈ WL := List.mem_of_getElem? (i := 213) (by decide +kernel)
set_option maxRecDepth 20000 in
theorem cw_X6_84 : CWV RX6 84 RX2 yX2_copyOf cX2_copyOf 2 none 1 := CWV.mk lk_X6_84 li_X2_copyOf ls_X2_copyOf lk_ini2 lc_X2_copyOf (by decide +kernel)
set_option maxRecDepth 20000 in
theorem lk_X6_87 : Cond.methodLink RX6 87 yX6_lands ∈ WL := List.mem_of_getElem? (i := 214) (by decide +kernel)
set_option maxRecDepth 20000 in
theorem lc_X6_lands : Cond.code yX6_lands cX6_lands 3 (some .boolean) ∈ WL := List.mem_of_getElem? (i := 217) (by decide +kernel)
set_option maxRecDepth 20000 in
theorem li_X6_lands : Cond.instanceMethod yX6_lands ∈ WL := List.mem_of_getElem? (i := 215) (by decide +kernel)
set_option maxRecDepth 20000 in
theorem ls_X6_lands : Cond.selects RX6 yX6_lands yX6_lands ∈ WL := List.mem_of_getElem? (i := 216) (by decide +kernel)
set_option maxRecDepth 20000 in
theorem cw_X6_87 : CWV RX6 87 RX6 yX6_lands cX6_lands 3 (some .boolean) 0 := CWV.mk lk_X6_87 li_X6_lands ls_X6_lands lk_ini6 lc_X6_lands (by decide +kernel)
set_option maxRecDepth 20000 in
theorem lk_X6_91 : Cond.classLink RX6 91 RX1 ∈ WL := List.mem_of_getElem? (i := 369) (by decide +kernel)
set_option maxRecDepth 20000 in
theorem lk_X6_93 : Cond.methodLink RX6 93 yX1_init ∈ WL := List.mem_of_getElem? (i := 374) (by decide +kernel)
set_option maxRecDepth 20000 in
theorem lc_X1_init : Cond.code yX1_init cX1_init 3 none ∈ WL := List.mem_of_getElem? (i := 376) (by decide +kernel)
set_option maxRecDepth 20000 in
theorem li_X1_init : Cond.instanceMethod yX1_init ∈ WL := List.mem_of_getElem? (i := 375) (by decide +kernel)
set_option maxRecDepth 20000 in
theorem cw_X6_93 : CWI RX6 93 yX1_init cX1_init 3 2 := ⟨gCode lc_X1_init, lk_ini1, lk_X6_93, li_X1_init, rfl, by decide +kernel⟩
set_option maxRecDepth 20000 in
theorem lk_X6_96 : Cond.methodLink RX6 96 yX1_read ∈ WL := List.mem_of_getElem? (i := 389) (by decide +kernel)
set_option maxRecDepth 20000 in
theorem lc_X1_read : Cond.code yX1_read cX1_read 2 (some .int) ∈ WL := List.mem_of_getElem? (i := 392) (by decide +kernel)
set_option maxRecDepth 20000 in
theorem li_X1_read : Cond.instanceMethod yX1_read ∈ WL := List.mem_of_getElem? (i := 390) (by decide +kernel)
set_option maxRecDepth 20000 in
theorem ls_X1_read : Cond.selects RX1 yX1_read yX1_read ∈ WL := List.mem_of_getElem? (i := 391) (by decide +kernel)
set_option maxRecDepth 20000 in
theorem cw_X6_96 : CWV RX6 96 RX1 yX1_read cX1_read 2 (some .int) 0 := CWV.mk lk_X6_96 li_X1_read ls_X1_read lk_ini1 lc_X1_read (by decide +kernel)
set_option maxRecDepth 20000 in
theorem lk_X6_99 : Cond.fieldLink RX6 99 "SnippetStops$State" "open" "I" ∈ WL := List.mem_of_getElem? (i := 372) (by decide +kernel)
set_option maxRecDepth 20000 in
theorem lk_X6_102 : Cond.fieldLink RX6 102 "SnippetStops$Reader" "template" "LSnippetStops$Template;" ∈ WL := List.mem_of_getElem? (i := 373) (by decide +kernel)
set_option maxRecDepth 20000 in
theorem lk_X6_106 : Cond.methodLink RX6 106 yX4_openSession ∈ WL := List.mem_of_getElem? (i := 486) (by decide +kernel)
set_option maxRecDepth 20000 in
theorem lc_X4_openSession : Cond.code yX4_openSession cX4_openSession 3 (some .int) ∈ WL := List.mem_of_getElem? (i := 489) (by decide +kernel)
set_option maxRecDepth 20000 in
theorem li_X4_openSession : Cond.instanceMethod yX4_openSession ∈ WL := List.mem_of_getElem? (i := 487) (by decide +kernel)
set_option maxRecDepth 20000 in
theorem ls_X4_openSession : Cond.selects RX4 yX4_openSession yX4_openSession ∈ WL := List.mem_of_getElem? (i := 488) (by decide +kernel)
set_option maxRecDepth 20000 in
theorem cw_X6_106 : CWV RX6 106 RX4 yX4_openSession cX4_openSession 3 (some .int) 1 := CWV.mk lk_X6_106 li_X4_openSession ls_X4_openSession lk_ini4 lc_X4_openSession (by decide +kernel)
set_option maxRecDepth 20000 in
theorem lk_X6_110 : Cond.methodLink RX6 110 yX4_settle ∈ WL := List.mem_of_getElem? (i := 218) (by decide +kernel)
set_option maxRecDepth 20000 in
theorem cw_X6_110 : CWV RX6 110 RX4 yX4_settle cX4_settle 3 (some .boolean) 0 := CWV.mk lk_X6_110 li_X4_settle ls_X4_settle lk_ini4 lc_X4_settle (by decide +kernel)
set_option maxRecDepth 20000 in
theorem lk_X6_113 : Cond.methodLink RX6 113 yX4_endUppermost ∈ WL := List.mem_of_getElem? (i := 511) (by decide +kernel)
set_option maxRecDepth 20000 in
theorem lc_X4_endUppermost : Cond.code yX4_endUppermost cX4_endUppermost 5 none ∈ WL := List.mem_of_getElem? (i := 514) (by decide +kernel)
set_option maxRecDepth 20000 in
theorem li_X4_endUppermost : Cond.instanceMethod yX4_endUppermost ∈ WL := List.mem_of_getElem? (i := 512) (by decide +kernel)
set_option maxRecDepth 20000 in
theorem ls_X4_endUppermost : Cond.selects RX4 yX4_endUppermost yX4_endUppermost ∈ WL := List.mem_of_getElem? (i := 513) (by decide +kernel)
set_option maxRecDepth 20000 in
theorem cw_X6_113 : CWV RX6 113 RX4 yX4_endUppermost cX4_endUppermost 5 none 0 := CWV.mk lk_X6_113 li_X4_endUppermost ls_X4_endUppermost lk_ini4 lc_X4_endUppermost (by decide +kernel)
set_option maxRecDepth 20000 in
theorem lk_X6_116 : Cond.methodLink RX6 116 yX6_isShown ∈ WL := List.mem_of_getElem? (i := 185) (by decide +kernel)
set_option maxRecDepth 20000 in
theorem lc_X6_isShown : Cond.code yX6_isShown cX6_isShown 1 (some .boolean) ∈ WL := List.mem_of_getElem? (i := 187) (by decide +kernel)
set_option maxRecDepth 20000 in
theorem lt_X6_isShown : Cond.static yX6_isShown ∈ WL := List.mem_of_getElem? (i := 186) (by decide +kernel)
set_option maxRecDepth 20000 in
theorem cw_X6_116 : CWS RX6 116 yX6_isShown cX6_isShown 1 (some .boolean) 1 := CWS.mk lk_X6_116 lt_X6_isShown lk_ini6 lc_X6_isShown (by decide +kernel)
set_option maxRecDepth 20000 in
theorem lk_X6_119 : Cond.methodLink RX6 119 yX4_uppermost ∈ WL := List.mem_of_getElem? (i := 760) (by decide +kernel)
set_option maxRecDepth 20000 in
theorem cw_X6_119 : CWV RX6 119 RX4 yX4_uppermost cX4_uppermost 1 (some (.object "SnippetStops$Session")) 0 := CWV.mk lk_X6_119 li_X4_uppermost ls_X4_uppermost lk_ini4 lc_X4_uppermost (by decide +kernel)
set_option maxRecDepth 20000 in
theorem lk_X6_123 : Cond.methodLink RX6 123 yX4_insertAtCaret ∈ WL := List.mem_of_getElem? (i := 761) (by decide +kernel)
set_option maxRecDepth 20000 in
theorem lc_X4_insertAtCaret : Cond.code yX4_insertAtCaret cX4_insertAtCaret 2 none ∈ WL := List.mem_of_getElem? (i := 764) (by decide +kernel)
set_option maxRecDepth 20000 in
theorem li_X4_insertAtCaret : Cond.instanceMethod yX4_insertAtCaret ∈ WL := List.mem_of_getElem? (i := 762) (by decide +kernel)
set_option maxRecDepth 20000 in
theorem ls_X4_insertAtCaret : Cond.selects RX4 yX4_insertAtCaret yX4_insertAtCaret ∈ WL := List.mem_of_getElem? (i := 763) (by decide +kernel)
set_option maxRecDepth 20000 in
theorem cw_X6_123 : CWV RX6 123 RX4 yX4_insertAtCaret cX4_insertAtCaret 2 none 1 := CWV.mk lk_X6_123 li_X4_insertAtCaret ls_X4_insertAtCaret lk_ini4 lc_X4_insertAtCaret (by decide +kernel)
set_option maxRecDepth 20000 in
theorem lk_X6_126 : Cond.methodLink RX6 126 yX3_addTyped ∈ WL := List.mem_of_getElem? (i := 770) (by decide +kernel)
set_option maxRecDepth 20000 in
theorem lk_X6_131 : Cond.fieldLink RX6 131 "SnippetStops$State" "shown" "LSnippetStops$Row;" ∈ WL := List.mem_of_getElem? (i := 759) (by decide +kernel)
set_option maxRecDepth 20000 in
theorem lk_X6_134 : Cond.fieldLink RX6 134 "SnippetStops$State" "caret" "I" ∈ WL := List.mem_of_getElem? (i := 799) (by decide +kernel)
set_option maxRecDepth 20000 in
theorem lk_X6_137 : Cond.fieldLink RX6 137 "SnippetStops$Session" "stop" "I" ∈ WL := List.mem_of_getElem? (i := 800) (by decide +kernel)
set_option maxRecDepth 20000 in
theorem lk_X6_140 : Cond.methodLink RX6 140 yX6_heldBy ∈ WL := List.mem_of_getElem? (i := 801) (by decide +kernel)
set_option maxRecDepth 20000 in
theorem lk_X6_144 : Cond.methodLink RX6 144 yX4_removeBytes ∈ WL := List.mem_of_getElem? (i := 809) (by decide +kernel)
set_option maxRecDepth 20000 in
theorem lk_X6_148 : Cond.methodLink RX6 148 yX3_rubOut ∈ WL := List.mem_of_getElem? (i := 818) (by decide +kernel)
set_option maxRecDepth 20000 in
theorem lk_X6_151 : Cond.methodLink RX6 151 yX3_leastAbove ∈ WL := List.mem_of_getElem? (i := 839) (by decide +kernel)
set_option maxRecDepth 20000 in
theorem cw_X6_151 : CWV RX6 151 RX3 yX3_leastAbove cX3_leastAbove 3 (some .int) 1 := CWV.mk lk_X6_151 li_X3_leastAbove ls_X3_leastAbove lk_ini3 lc_X3_leastAbove (by decide +kernel)
set_option maxRecDepth 20000 in
theorem lk_X6_154 : Cond.methodLink RX6 154 yX4_comeTo ∈ WL := List.mem_of_getElem? (i := 840) (by decide +kernel)
set_option maxRecDepth 20000 in
theorem lk_X6_157 : Cond.methodLink RX6 157 yX3_greatestBelow ∈ WL := List.mem_of_getElem? (i := 857) (by decide +kernel)
set_option maxRecDepth 20000 in
theorem lk_X6_160 : Cond.methodLink RX6 160 yX3_choicesThere ∈ WL := List.mem_of_getElem? (i := 869) (by decide +kernel)
set_option maxRecDepth 20000 in
theorem lk_X6_163 : Cond.methodLink RX6 163 yX3_pick ∈ WL := List.mem_of_getElem? (i := 873) (by decide +kernel)
set_option maxRecDepth 20000 in
theorem lk_X6_166 : Cond.methodLink RX6 166 yX2_get ∈ WL := List.mem_of_getElem? (i := 181) (by decide +kernel)
set_option maxRecDepth 20000 in
theorem cw_X6_166 : CWV RX6 166 RX2 yX2_get cX2_get 2 (some .int) 1 := CWV.mk lk_X6_166 li_X2_get ls_X2_get lk_ini2 lc_X2_get (by decide +kernel)
set_option maxRecDepth 20000 in
theorem lk_X6_169 : Cond.fieldLink RX6 169 "SnippetStops$Session" "fresh" "Z" ∈ WL := List.mem_of_getElem? (i := 929) (by decide +kernel)
set_option maxRecDepth 20000 in
theorem lk_X6_173 : Cond.methodLink RX6 173 yX3_stopsThere ∈ WL := List.mem_of_getElem? (i := 930) (by decide +kernel)
set_option maxRecDepth 20000 in
theorem lk_X6_176 : Cond.methodLink RX6 176 yX6_isStop ∈ WL := List.mem_of_getElem? (i := 950) (by decide +kernel)
set_option maxRecDepth 20000 in
theorem lc_X6_isStop : Cond.code yX6_isStop cX6_isStop 1 (some .boolean) ∈ WL := List.mem_of_getElem? (i := 256) (by decide +kernel)
set_option maxRecDepth 20000 in
theorem lt_X6_isStop : Cond.static yX6_isStop ∈ WL := List.mem_of_getElem? (i := 255) (by decide +kernel)
set_option maxRecDepth 20000 in
theorem cw_X6_176 : CWS RX6 176 yX6_isStop cX6_isStop 1 (some .boolean) 1 := CWS.mk lk_X6_176 lt_X6_isStop lk_ini6 lc_X6_isStop (by decide +kernel)
set_option maxRecDepth 20000 in
theorem lk_X6_179 : Cond.methodLink RX6 179 yX3_occurrencesThere ∈ WL := List.mem_of_getElem? (i := 951) (by decide +kernel)
set_option maxRecDepth 20000 in
theorem cw_X6_179 : CWV RX6 179 RX3 yX3_occurrencesThere cX3_occurrencesThere 5 (some .int) 1 := CWV.mk lk_X6_179 li_X3_occurrencesThere ls_X3_occurrencesThere lk_ini3 lc_X3_occurrencesThere (by decide +kernel)
set_option maxRecDepth 20000 in
theorem lk_X6_182 : Cond.methodLink RX6 182 yX3_isSet ∈ WL := List.mem_of_getElem? (i := 952) (by decide +kernel)
set_option maxRecDepth 20000 in
theorem lk_X6_185 : Cond.fieldLink RX6 185 "SnippetStops$Session" "template" "LSnippetStops$Template;" ∈ WL := List.mem_of_getElem? (i := 981) (by decide +kernel)
set_option maxRecDepth 20000 in
theorem lk_X6_186 : Cond.methodLink RX6 186 yX5_putChoice ∈ WL := List.mem_of_getElem? (i := 982) (by decide +kernel)
set_option maxRecDepth 20000 in
theorem lk_X6_190 : Cond.methodLink RX6 190 yX3_findThere ∈ WL := List.mem_of_getElem? (i := 992) (by decide +kernel)
set_option maxRecDepth 20000 in
theorem cw_X6_190 : CWV RX6 190 RX3 yX3_findThere cX3_findThere 6 (some (.object "SnippetStops$Occurrence")) 2 := CWV.mk lk_X6_190 li_X3_findThere ls_X3_findThere lk_ini3 lc_X3_findThere (by decide +kernel)
set_option maxRecDepth 20000 in
theorem lk_X6_194 : Cond.methodLink RX6 194 yX4_beginOfUppermost ∈ WL := List.mem_of_getElem? (i := 993) (by decide +kernel)
set_option maxRecDepth 20000 in
theorem lk_X6_197 : Cond.methodLink RX6 197 yX3_beginOf ∈ WL := List.mem_of_getElem? (i := 1003) (by decide +kernel)
set_option maxRecDepth 20000 in
theorem lk_X6_201 : Cond.methodLink RX6 201 yX3_lengthOf ∈ WL := List.mem_of_getElem? (i := 1004) (by decide +kernel)
set_option maxRecDepth 20000 in
theorem lk_X6_204 : Cond.fieldLink RX6 204 "SnippetStops$Occurrence" "rule" "I" ∈ WL := List.mem_of_getElem? (i := 991) (by decide +kernel)
set_option maxRecDepth 20000 in
theorem lk_X6_209 : Cond.methodLink RX6 209 yX5_isMaster ∈ WL := List.mem_of_getElem? (i := 1008) (by decide +kernel)
set_option maxRecDepth 20000 in
theorem lk_X6_213 : Cond.methodLink RX6 213 yX3_unlikePlaces ∈ WL := List.mem_of_getElem? (i := 1025) (by decide +kernel)
set_option maxRecDepth 20000 in
theorem lk_X6_216 : Cond.constantLong RX6 216 (1870) ∈ WL := List.mem_of_getElem? (i := 1074) (by decide +kernel)
set_option maxRecDepth 20000 in
theorem lk_X6_218 : Cond.constantLong RX6 218 (31) ∈ WL := List.mem_of_getElem? (i := 1075) (by decide +kernel)
set_option maxRecDepth 20000 in
theorem lk_X6_220 : Cond.methodLink RX6 220 yX6_told ∈ WL := List.mem_of_getElem? (i := 1076) (by decide +kernel)
set_option maxRecDepth 20000 in
theorem lc_X6_told : Cond.code yX6_told cX6_told 2 (some .int) ∈ WL := List.mem_of_getElem? (i := 1061) (by decide +kernel)
set_option maxRecDepth 20000 in
theorem li_X6_told : Cond.instanceMethod yX6_told ∈ WL := List.mem_of_getElem? (i := 1059) (by decide +kernel)
set_option maxRecDepth 20000 in
theorem ls_X6_told : Cond.selects RX6 yX6_told yX6_told ∈ WL := List.mem_of_getElem? (i := 1060) (by decide +kernel)
set_option maxRecDepth 20000 in
theorem cw_X6_220 : CWV RX6 220 RX6 yX6_told cX6_told 2 (some .int) 1 := CWV.mk lk_X6_220 li_X6_told ls_X6_told lk_ini6 lc_X6_told (by decide +kernel)
set_option maxRecDepth 20000 in
theorem lk_X6_223 : Cond.methodLink RX6 223 yX6_count ∈ WL := List.mem_of_getElem? (i := 1077) (by decide +kernel)
set_option maxRecDepth 20000 in
theorem lc_X6_count : Cond.code yX6_count cX6_count 3 (some .int) ∈ WL := List.mem_of_getElem? (i := 928) (by decide +kernel)
set_option maxRecDepth 20000 in
theorem li_X6_count : Cond.instanceMethod yX6_count ∈ WL := List.mem_of_getElem? (i := 926) (by decide +kernel)
set_option maxRecDepth 20000 in
theorem ls_X6_count : Cond.selects RX6 yX6_count yX6_count ∈ WL := List.mem_of_getElem? (i := 927) (by decide +kernel)
set_option maxRecDepth 20000 in
theorem cw_X6_223 : CWV RX6 223 RX6 yX6_count cX6_count 3 (some .int) 1 := CWV.mk lk_X6_223 li_X6_count ls_X6_count lk_ini6 lc_X6_count (by decide +kernel)
set_option maxRecDepth 20000 in
theorem lk_X6_226 : Cond.methodLink RX6 226 yX6_stop ∈ WL := List.mem_of_getElem? (i := 1078) (by decide +kernel)
set_option maxRecDepth 20000 in
theorem lc_X6_stop : Cond.code yX6_stop cX6_stop 4 (some .int) ∈ WL := List.mem_of_getElem? (i := 949) (by decide +kernel)
set_option maxRecDepth 20000 in
theorem li_X6_stop : Cond.instanceMethod yX6_stop ∈ WL := List.mem_of_getElem? (i := 947) (by decide +kernel)
set_option maxRecDepth 20000 in
theorem ls_X6_stop : Cond.selects RX6 yX6_stop yX6_stop ∈ WL := List.mem_of_getElem? (i := 948) (by decide +kernel)
set_option maxRecDepth 20000 in
theorem cw_X6_226 : CWV RX6 226 RX6 yX6_stop cX6_stop 4 (some .int) 2 := CWV.mk lk_X6_226 li_X6_stop ls_X6_stop lk_ini6 lc_X6_stop (by decide +kernel)
set_option maxRecDepth 20000 in
theorem lk_X7_1 : Cond.methodLink RX7 1 objectInit ∈ WL := List.mem_of_getElem? (i := 84) (by decide +kernel)
set_option maxRecDepth 20000 in
theorem lk_X7_7 : Cond.fieldLink RX7 7 "SnippetStopsModel" "refused" "[I" ∈ WL := List.mem_of_getElem? (i := 85) (by decide +kernel)
set_option maxRecDepth 20000 in
theorem lk_X7_13 : Cond.fieldLink RX7 13 "SnippetStopsModel" "document" "[I" ∈ WL := List.mem_of_getElem? (i := 86) (by decide +kernel)
set_option maxRecDepth 20000 in
theorem lk_X7_16 : Cond.fieldLink RX7 16 "SnippetStopsModel" "variables" "[I" ∈ WL := List.mem_of_getElem? (i := 87) (by decide +kernel)
set_option maxRecDepth 20000 in
theorem lk_X7_19 : Cond.fieldLink RX7 19 "SnippetStopsModel" "nodes" "[I" ∈ WL := List.mem_of_getElem? (i := 88) (by decide +kernel)
set_option maxRecDepth 20000 in
theorem lk_X7_22 : Cond.fieldLink RX7 22 "SnippetStopsModel" "node" "[I" ∈ WL := List.mem_of_getElem? (i := 89) (by decide +kernel)
set_option maxRecDepth 20000 in
theorem lk_X7_25 : Cond.fieldLink RX7 25 "SnippetStopsModel" "master" "[I" ∈ WL := List.mem_of_getElem? (i := 90) (by decide +kernel)
set_option maxRecDepth 20000 in
theorem lk_X7_28 : Cond.fieldLink RX7 28 "SnippetStopsModel" "isSet" "[I" ∈ WL := List.mem_of_getElem? (i := 91) (by decide +kernel)
set_option maxRecDepth 20000 in
theorem lk_X7_31 : Cond.fieldLink RX7 31 "SnippetStopsModel" "setMany" "[I" ∈ WL := List.mem_of_getElem? (i := 92) (by decide +kernel)
set_option maxRecDepth 20000 in
theorem lk_X7_34 : Cond.fieldLink RX7 34 "SnippetStopsModel" "setFrom" "[I" ∈ WL := List.mem_of_getElem? (i := 93) (by decide +kernel)
set_option maxRecDepth 20000 in
theorem lk_X7_37 : Cond.fieldLink RX7 37 "SnippetStopsModel" "setUsed" "[I" ∈ WL := List.mem_of_getElem? (i := 94) (by decide +kernel)
set_option maxRecDepth 20000 in
theorem lk_X7_40 : Cond.constant RX7 40 (72000) ∈ WL := List.mem_of_getElem? (i := 95) (by decide +kernel)
set_option maxRecDepth 20000 in
theorem lk_X7_41 : Cond.fieldLink RX7 41 "SnippetStopsModel" "setText" "[I" ∈ WL := List.mem_of_getElem? (i := 96) (by decide +kernel)
set_option maxRecDepth 20000 in
theorem lk_X7_44 : Cond.fieldLink RX7 44 "SnippetStopsModel" "atStop" "[I" ∈ WL := List.mem_of_getElem? (i := 97) (by decide +kernel)
set_option maxRecDepth 20000 in
theorem lk_X7_47 : Cond.fieldLink RX7 47 "SnippetStopsModel" "isFresh" "[I" ∈ WL := List.mem_of_getElem? (i := 98) (by decide +kernel)
set_option maxRecDepth 20000 in
theorem lk_X7_50 : Cond.fieldLink RX7 50 "SnippetStopsModel" "then" "[I" ∈ WL := List.mem_of_getElem? (i := 99) (by decide +kernel)
set_option maxRecDepth 20000 in
theorem lk_X7_53 : Cond.fieldLink RX7 53 "SnippetStopsModel" "choiceMany" "[I" ∈ WL := List.mem_of_getElem? (i := 100) (by decide +kernel)
set_option maxRecDepth 20000 in
theorem lk_X7_56 : Cond.fieldLink RX7 56 "SnippetStopsModel" "choiceFrom" "[I" ∈ WL := List.mem_of_getElem? (i := 101) (by decide +kernel)
set_option maxRecDepth 20000 in
theorem lk_X7_59 : Cond.fieldLink RX7 59 "SnippetStopsModel" "choiceLong" "[I" ∈ WL := List.mem_of_getElem? (i := 102) (by decide +kernel)
set_option maxRecDepth 20000 in
theorem lk_X7_62 : Cond.fieldLink RX7 62 "SnippetStopsModel" "choiceBytes" "[I" ∈ WL := List.mem_of_getElem? (i := 103) (by decide +kernel)
set_option maxRecDepth 20000 in
theorem lk_X7_65 : Cond.fieldLink RX7 65 "SnippetStopsModel" "text" "[I" ∈ WL := List.mem_of_getElem? (i := 104) (by decide +kernel)
set_option maxRecDepth 20000 in
theorem lk_X7_68 : Cond.fieldLink RX7 68 "SnippetStopsModel" "open" "[I" ∈ WL := List.mem_of_getElem? (i := 105) (by decide +kernel)
set_option maxRecDepth 20000 in
theorem lk_X7_71 : Cond.fieldLink RX7 71 "SnippetStopsModel" "shown" "[I" ∈ WL := List.mem_of_getElem? (i := 106) (by decide +kernel)
set_option maxRecDepth 20000 in
theorem lk_X7_74 : Cond.fieldLink RX7 74 "SnippetStopsModel" "nextNode" "[I" ∈ WL := List.mem_of_getElem? (i := 107) (by decide +kernel)
set_option maxRecDepth 20000 in
theorem lk_X7_77 : Cond.fieldLink RX7 77 "SnippetStopsModel" "endNode" "[I" ∈ WL := List.mem_of_getElem? (i := 108) (by decide +kernel)
set_option maxRecDepth 20000 in
theorem lk_X7_80 : Cond.fieldLink RX7 80 "SnippetStopsModel" "made" "[I" ∈ WL := List.mem_of_getElem? (i := 109) (by decide +kernel)
set_option maxRecDepth 20000 in
theorem lk_X7_83 : Cond.fieldLink RX7 83 "SnippetStopsModel" "beganAt" "[I" ∈ WL := List.mem_of_getElem? (i := 110) (by decide +kernel)
set_option maxRecDepth 20000 in
theorem lk_X7_86 : Cond.fieldLink RX7 86 "SnippetStopsModel" "ofNode" "[I" ∈ WL := List.mem_of_getElem? (i := 111) (by decide +kernel)
set_option maxRecDepth 20000 in
theorem lk_X7_89 : Cond.fieldLink RX7 89 "SnippetStopsModel" "isOwn" "[I" ∈ WL := List.mem_of_getElem? (i := 112) (by decide +kernel)
set_option maxRecDepth 20000 in
theorem lk_X7_92 : Cond.fieldLink RX7 92 "SnippetStopsModel" "begin" "[I" ∈ WL := List.mem_of_getElem? (i := 113) (by decide +kernel)
set_option maxRecDepth 20000 in
theorem lk_X7_95 : Cond.fieldLink RX7 95 "SnippetStopsModel" "size" "[I" ∈ WL := List.mem_of_getElem? (i := 114) (by decide +kernel)
set_option maxRecDepth 20000 in
theorem lk_X7_98 : Cond.fieldLink RX7 98 "SnippetStopsModel" "holding" "[I" ∈ WL := List.mem_of_getElem? (i := 115) (by decide +kernel)
set_option maxRecDepth 20000 in
theorem lk_X7_101 : Cond.constant RX7 101 (630000) ∈ WL := List.mem_of_getElem? (i := 116) (by decide +kernel)
set_option maxRecDepth 20000 in
theorem lk_X7_102 : Cond.fieldLink RX7 102 "SnippetStopsModel" "kept" "[I" ∈ WL := List.mem_of_getElem? (i := 117) (by decide +kernel)
set_option maxRecDepth 20000 in
theorem lk_X7_113 : Cond.methodLink RX7 113 yX7_isOccurrence ∈ WL := List.mem_of_getElem? (i := 602) (by decide +kernel)
set_option maxRecDepth 20000 in
theorem lk_X7_117 : Cond.methodLink RX7 117 yX7_value ∈ WL := List.mem_of_getElem? (i := 610) (by decide +kernel)
set_option maxRecDepth 20000 in
theorem lk_X7_120 : Cond.methodLink RX7 120 yX7_isThere ∈ WL := List.mem_of_getElem? (i := 626) (by decide +kernel)
set_option maxRecDepth 20000 in
theorem lk_X7_123 : Cond.fieldLink RX7 123 "SnippetStopsModel" "readAt" "I" ∈ WL := List.mem_of_getElem? (i := 533) (by decide +kernel)
set_option maxRecDepth 20000 in
theorem lk_X7_134 : Cond.fieldLink RX7 134 "SnippetStopsModel" "isFaulty" "Z" ∈ WL := List.mem_of_getElem? (i := 538) (by decide +kernel)
set_option maxRecDepth 20000 in
theorem lk_X7_176 : Cond.fieldLink RX7 176 "SnippetStopsModel" "occurrences" "I" ∈ WL := List.mem_of_getElem? (i := 539) (by decide +kernel)
set_option maxRecDepth 20000 in
theorem lk_X7_167 : Cond.fieldLink RX7 167 "SnippetStopsModel" "deep" "I" ∈ WL := List.mem_of_getElem? (i := 540) (by decide +kernel)
set_option maxRecDepth 20000 in
theorem lk_X7_127 : Cond.fieldLink RX7 127 "SnippetStopsModel" "length" "I" ∈ WL := List.mem_of_getElem? (i := 146) (by decide +kernel)
set_option maxRecDepth 20000 in
theorem lk_X7_130 : Cond.methodLink RX7 130 yX7_here ∈ WL := List.mem_of_getElem? (i := 541) (by decide +kernel)
set_option maxRecDepth 20000 in
theorem lk_X7_182 : Cond.methodLink RX7 182 yX7_readsDollar ∈ WL := List.mem_of_getElem? (i := 545) (by decide +kernel)
set_option maxRecDepth 20000 in
theorem lk_X7_105 : Cond.methodLink RX7 105 yX7_cell ∈ WL := List.mem_of_getElem? (i := 553) (by decide +kernel)
set_option maxRecDepth 20000 in
theorem lk_X7_157 : Cond.methodLink RX7 157 yX7_plain ∈ WL := List.mem_of_getElem? (i := 572) (by decide +kernel)
set_option maxRecDepth 20000 in
theorem lk_X7_164 : Cond.methodLink RX7 164 yX7_comes ∈ WL := List.mem_of_getElem? (i := 549) (by decide +kernel)
set_option maxRecDepth 20000 in
theorem lk_X7_185 : Cond.methodLink RX7 185 yX7_isFull ∈ WL := List.mem_of_getElem? (i := 614) (by decide +kernel)
set_option maxRecDepth 20000 in
theorem lk_X7_188 : Cond.methodLink RX7 188 yX7_masterOf ∈ WL := List.mem_of_getElem? (i := 618) (by decide +kernel)
set_option maxRecDepth 20000 in
theorem lk_X7_109 : Cond.methodLink RX7 109 yX7_kind ∈ WL := List.mem_of_getElem? (i := 606) (by decide +kernel)
set_option maxRecDepth 20000 in
theorem lk_X7_191 : Cond.methodLink RX7 191 yX7_behind ∈ WL := List.mem_of_getElem? (i := 622) (by decide +kernel)
set_option maxRecDepth 20000 in
theorem lk_X7_210 : Cond.fieldLink RX7 210 "SnippetStopsModel" "levels" "I" ∈ WL := List.mem_of_getElem? (i := 648) (by decide +kernel)
set_option maxRecDepth 20000 in
theorem lk_X7_194 : Cond.fieldLink RX7 194 "SnippetStopsModel" "many" "I" ∈ WL := List.mem_of_getElem? (i := 646) (by decide +kernel)
set_option maxRecDepth 20000 in
theorem lk_X7_216 : Cond.methodLink RX7 216 yX7_rules ∈ WL := List.mem_of_getElem? (i := 661) (by decide +kernel)
set_option maxRecDepth 20000 in
theorem lk_X7_232 : Cond.methodLink RX7 232 yX7_closes ∈ WL := List.mem_of_getElem? (i := 657) (by decide +kernel)
set_option maxRecDepth 20000 in
theorem lc_X7_closes : Cond.code yX7_closes cX7_closes 5 none ∈ WL := List.mem_of_getElem? (i := 660) (by decide +kernel)
set_option maxRecDepth 20000 in
theorem li_X7_closes : Cond.instanceMethod yX7_closes ∈ WL := List.mem_of_getElem? (i := 658) (by decide +kernel)
set_option maxRecDepth 20000 in
theorem ls_X7_closes : Cond.selects RX7 yX7_closes yX7_closes ∈ WL := List.mem_of_getElem? (i := 659) (by decide +kernel)
set_option maxRecDepth 20000 in
theorem cw_X7_232 : CWV RX7 232 RX7 yX7_closes cX7_closes 5 none 4 := CWV.mk lk_X7_232 li_X7_closes ls_X7_closes lk_ini7 lc_X7_closes (by decide +kernel)
set_option maxRecDepth 20000 in
theorem lk_X7_213 : Cond.methodLink RX7 213 yX7_shows ∈ WL := List.mem_of_getElem? (i := 675) (by decide +kernel)
set_option maxRecDepth 20000 in
theorem lk_X7_236 : Cond.methodLink RX7 236 yX7_showsVariable ∈ WL := List.mem_of_getElem? (i := 679) (by decide +kernel)
set_option maxRecDepth 20000 in
theorem lk_X7_239 : Cond.methodLink RX7 239 yX7_meets ∈ WL := List.mem_of_getElem? (i := 683) (by decide +kernel)
set_option maxRecDepth 20000 in
theorem lk_X7_197 : Cond.fieldLink RX7 197 "SnippetStopsModel" "isTooMuch" "Z" ∈ WL := List.mem_of_getElem? (i := 647) (by decide +kernel)
set_option maxRecDepth 20000 in
theorem lk_X7_228 : Cond.methodLink RX7 228 yX7_opens ∈ WL := List.mem_of_getElem? (i := 649) (by decide +kernel)
set_option maxRecDepth 20000 in
theorem lc_X7_opens : Cond.code yX7_opens cX7_opens 6 none ∈ WL := List.mem_of_getElem? (i := 652) (by decide +kernel)
set_option maxRecDepth 20000 in
theorem li_X7_opens : Cond.instanceMethod yX7_opens ∈ WL := List.mem_of_getElem? (i := 650) (by decide +kernel)
set_option maxRecDepth 20000 in
theorem ls_X7_opens : Cond.selects RX7 yX7_opens yX7_opens ∈ WL := List.mem_of_getElem? (i := 651) (by decide +kernel)
set_option maxRecDepth 20000 in
theorem cw_X7_228 : CWV RX7 228 RX7 yX7_opens cX7_opens 6 none 5 := CWV.mk lk_X7_228 li_X7_opens ls_X7_opens lk_ini7 lc_X7_opens (by decide +kernel)
set_option maxRecDepth 20000 in
theorem lk_X7_242 : Cond.methodLink RX7 242 yX7_step ∈ WL := List.mem_of_getElem? (i := 653) (by decide +kernel)
set_option maxRecDepth 20000 in
theorem lc_X7_step : Cond.code yX7_step cX7_step 4 none ∈ WL := List.mem_of_getElem? (i := 656) (by decide +kernel)
set_option maxRecDepth 20000 in
theorem li_X7_step : Cond.instanceMethod yX7_step ∈ WL := List.mem_of_getElem? (i := 654) (by decide +kernel)
set_option maxRecDepth 20000 in
theorem ls_X7_step : Cond.selects RX7 yX7_step yX7_step ∈ WL := List.mem_of_getElem? (i := 655) (by decide +kernel)
set_option maxRecDepth 20000 in
theorem cw_X7_242 : CWV RX7 242 RX7 yX7_step cX7_step 4 none 1 := CWV.mk lk_X7_242 li_X7_step ls_X7_step lk_ini7 lc_X7_step (by decide +kernel)
set_option maxRecDepth 20000 in
theorem lk_X7_257 : Cond.fieldLink RX7 257 "SnippetStopsModel" "sessions" "I" ∈ WL := List.mem_of_getElem? (i := 347) (by decide +kernel)
set_option maxRecDepth 20000 in
theorem lk_X7_260 : Cond.methodLink RX7 260 yX7_showsAll ∈ WL := List.mem_of_getElem? (i := 642) (by decide +kernel)
set_option maxRecDepth 20000 in
theorem lc_X7_showsAll : Cond.code yX7_showsAll cX7_showsAll 2 none ∈ WL := List.mem_of_getElem? (i := 645) (by decide +kernel)
set_option maxRecDepth 20000 in
theorem li_X7_showsAll : Cond.instanceMethod yX7_showsAll ∈ WL := List.mem_of_getElem? (i := 643) (by decide +kernel)
set_option maxRecDepth 20000 in
theorem ls_X7_showsAll : Cond.selects RX7 yX7_showsAll yX7_showsAll ∈ WL := List.mem_of_getElem? (i := 644) (by decide +kernel)
set_option maxRecDepth 20000 in
theorem cw_X7_260 : CWV RX7 260 RX7 yX7_showsAll cX7_showsAll 2 none 1 := CWV.mk lk_X7_260 li_X7_showsAll ls_X7_showsAll lk_ini7 lc_X7_showsAll (by decide +kernel)
set_option maxRecDepth 20000 in
theorem lk_X7_263 : Cond.methodLink RX7 263 yX7_holdsAside ∈ WL := List.mem_of_getElem? (i := 699) (by decide +kernel)
set_option maxRecDepth 20000 in
theorem lk_X7_266 : Cond.methodLink RX7 266 yX7_sets ∈ WL := List.mem_of_getElem? (i := 703) (by decide +kernel)
set_option maxRecDepth 20000 in
theorem lk_X7_269 : Cond.fieldLink RX7 269 "SnippetStopsModel" "keptAt" "I" ∈ WL := List.mem_of_getElem? (i := 343) (by decide +kernel)
set_option maxRecDepth 20000 in
theorem lk_X7_278 : Cond.constant RX7 278 (70000) ∈ WL := List.mem_of_getElem? (i := 342) (by decide +kernel)
set_option maxRecDepth 20000 in
theorem lk_X7_272 : Cond.methodLink RX7 272 yX7_put ∈ WL := List.mem_of_getElem? (i := 348) (by decide +kernel)
set_option maxRecDepth 20000 in
theorem lc_X7_put : Cond.code yX7_put cX7_put 2 none ∈ WL := List.mem_of_getElem? (i := 351) (by decide +kernel)
set_option maxRecDepth 20000 in
theorem li_X7_put : Cond.instanceMethod yX7_put ∈ WL := List.mem_of_getElem? (i := 349) (by decide +kernel)
set_option maxRecDepth 20000 in
theorem ls_X7_put : Cond.selects RX7 yX7_put yX7_put ∈ WL := List.mem_of_getElem? (i := 350) (by decide +kernel)
set_option maxRecDepth 20000 in
theorem cw_X7_272 : CWV RX7 272 RX7 yX7_put cX7_put 2 none 1 := CWV.mk lk_X7_272 li_X7_put ls_X7_put lk_ini7 lc_X7_put (by decide +kernel)
set_option maxRecDepth 20000 in
theorem lk_X7_279 : Cond.fieldLink RX7 279 "SnippetStopsModel" "bytes" "I" ∈ WL := List.mem_of_getElem? (i := 344) (by decide +kernel)
set_option maxRecDepth 20000 in
theorem lk_X7_282 : Cond.fieldLink RX7 282 "SnippetStopsModel" "caret" "I" ∈ WL := List.mem_of_getElem? (i := 345) (by decide +kernel)
set_option maxRecDepth 20000 in
theorem lk_X7_285 : Cond.fieldLink RX7 285 "SnippetStopsModel" "ahead" "I" ∈ WL := List.mem_of_getElem? (i := 346) (by decide +kernel)
set_option maxRecDepth 20000 in
theorem lk_X7_288 : Cond.methodLink RX7 288 yX7_putsSession ∈ WL := List.mem_of_getElem? (i := 352) (by decide +kernel)
set_option maxRecDepth 20000 in
theorem lk_X7_294 : Cond.fieldLink RX7 294 "SnippetStopsModel" "states" "I" ∈ WL := List.mem_of_getElem? (i := 360) (by decide +kernel)
set_option maxRecDepth 20000 in
theorem lk_X7_297 : Cond.methodLink RX7 297 yX7_copiesState ∈ WL := List.mem_of_getElem? (i := 361) (by decide +kernel)
set_option maxRecDepth 20000 in
theorem lc_X7_copiesState : Cond.code yX7_copiesState cX7_copiesState 5 none ∈ WL := List.mem_of_getElem? (i := 364) (by decide +kernel)
set_option maxRecDepth 20000 in
theorem li_X7_copiesState : Cond.instanceMethod yX7_copiesState ∈ WL := List.mem_of_getElem? (i := 362) (by decide +kernel)
set_option maxRecDepth 20000 in
theorem ls_X7_copiesState : Cond.selects RX7 yX7_copiesState yX7_copiesState ∈ WL := List.mem_of_getElem? (i := 363) (by decide +kernel)
set_option maxRecDepth 20000 in
theorem cw_X7_297 : CWV RX7 297 RX7 yX7_copiesState cX7_copiesState 5 none 2 := CWV.mk lk_X7_297 li_X7_copiesState ls_X7_copiesState lk_ini7 lc_X7_copiesState (by decide +kernel)
set_option maxRecDepth 20000 in
theorem lk_X7_306 : Cond.methodLink RX7 306 yX7_documentBytes ∈ WL := List.mem_of_getElem? (i := 727) (by decide +kernel)
set_option maxRecDepth 20000 in
theorem lc_X7_documentBytes : Cond.code yX7_documentBytes cX7_documentBytes 1 (some .int) ∈ WL := List.mem_of_getElem? (i := 730) (by decide +kernel)
set_option maxRecDepth 20000 in
theorem li_X7_documentBytes : Cond.instanceMethod yX7_documentBytes ∈ WL := List.mem_of_getElem? (i := 728) (by decide +kernel)
set_option maxRecDepth 20000 in
theorem ls_X7_documentBytes : Cond.selects RX7 yX7_documentBytes yX7_documentBytes ∈ WL := List.mem_of_getElem? (i := 729) (by decide +kernel)
set_option maxRecDepth 20000 in
theorem cw_X7_306 : CWV RX7 306 RX7 yX7_documentBytes cX7_documentBytes 1 (some .int) 0 := CWV.mk lk_X7_306 li_X7_documentBytes ls_X7_documentBytes lk_ini7 lc_X7_documentBytes (by decide +kernel)
set_option maxRecDepth 20000 in
theorem lk_X7_322 : Cond.methodLink RX7 322 yX7_first ∈ WL := List.mem_of_getElem? (i := 747) (by decide +kernel)
set_option maxRecDepth 20000 in
theorem lc_X7_first : Cond.code yX7_first cX7_first 5 (some .int) ∈ WL := List.mem_of_getElem? (i := 750) (by decide +kernel)
set_option maxRecDepth 20000 in
theorem li_X7_first : Cond.instanceMethod yX7_first ∈ WL := List.mem_of_getElem? (i := 748) (by decide +kernel)
set_option maxRecDepth 20000 in
theorem ls_X7_first : Cond.selects RX7 yX7_first yX7_first ∈ WL := List.mem_of_getElem? (i := 749) (by decide +kernel)
set_option maxRecDepth 20000 in
theorem cw_X7_322 : CWV RX7 322 RX7 yX7_first cX7_first 5 (some .int) 2 := CWV.mk lk_X7_322 li_X7_first ls_X7_first lk_ini7 lc_X7_first (by decide +kernel)
set_option maxRecDepth 20000 in
theorem lk_X7_325 : Cond.methodLink RX7 325 yX7_comesIn ∈ WL := List.mem_of_getElem? (i := 751) (by decide +kernel)
set_option maxRecDepth 20000 in
theorem lc_X7_comesIn : Cond.code yX7_comesIn cX7_comesIn 4 none ∈ WL := List.mem_of_getElem? (i := 754) (by decide +kernel)
set_option maxRecDepth 20000 in
theorem li_X7_comesIn : Cond.instanceMethod yX7_comesIn ∈ WL := List.mem_of_getElem? (i := 752) (by decide +kernel)
set_option maxRecDepth 20000 in
theorem ls_X7_comesIn : Cond.selects RX7 yX7_comesIn yX7_comesIn ∈ WL := List.mem_of_getElem? (i := 753) (by decide +kernel)
set_option maxRecDepth 20000 in
theorem cw_X7_325 : CWV RX7 325 RX7 yX7_comesIn cX7_comesIn 4 none 2 := CWV.mk lk_X7_325 li_X7_comesIn ls_X7_comesIn lk_ini7 lc_X7_comesIn (by decide +kernel)
set_option maxRecDepth 20000 in
theorem lk_X7_138 : Cond.methodLink RX7 138 yX7_in ∈ WL := List.mem_of_getElem? (i := 147) (by decide +kernel)
set_option maxRecDepth 20000 in
theorem lc_X7_in : Cond.code yX7_in cX7_in 3 (some .boolean) ∈ WL := List.mem_of_getElem? (i := 149) (by decide +kernel)
set_option maxRecDepth 20000 in
theorem lt_X7_in : Cond.static yX7_in ∈ WL := List.mem_of_getElem? (i := 148) (by decide +kernel)
set_option maxRecDepth 20000 in
theorem cw_X7_138 : CWS RX7 138 yX7_in cX7_in 3 (some .boolean) 3 := CWS.mk lk_X7_138 lt_X7_in lk_ini7 lc_X7_in (by decide +kernel)
set_option maxRecDepth 20000 in
theorem lk_X7_328 : Cond.methodLink RX7 328 yX7_isStopThere ∈ WL := List.mem_of_getElem? (i := 634) (by decide +kernel)
set_option maxRecDepth 20000 in
theorem lc_X7_isStopThere : Cond.code yX7_isStopThere cX7_isStopThere 5 (some .boolean) ∈ WL := List.mem_of_getElem? (i := 637) (by decide +kernel)
set_option maxRecDepth 20000 in
theorem li_X7_isStopThere : Cond.instanceMethod yX7_isStopThere ∈ WL := List.mem_of_getElem? (i := 635) (by decide +kernel)
set_option maxRecDepth 20000 in
theorem ls_X7_isStopThere : Cond.selects RX7 yX7_isStopThere yX7_isStopThere ∈ WL := List.mem_of_getElem? (i := 636) (by decide +kernel)
set_option maxRecDepth 20000 in
theorem cw_X7_328 : CWV RX7 328 RX7 yX7_isStopThere cX7_isStopThere 5 (some .boolean) 2 := CWV.mk lk_X7_328 li_X7_isStopThere ls_X7_isStopThere lk_ini7 lc_X7_isStopThere (by decide +kernel)
set_option maxRecDepth 20000 in
theorem lk_X7_331 : Cond.methodLink RX7 331 yX7_bad ∈ WL := List.mem_of_getElem? (i := 150) (by decide +kernel)
set_option maxRecDepth 20000 in
theorem lc_X7_bad : Cond.code yX7_bad cX7_bad 1 (some .int) ∈ WL := List.mem_of_getElem? (i := 153) (by decide +kernel)
set_option maxRecDepth 20000 in
theorem li_X7_bad : Cond.instanceMethod yX7_bad ∈ WL := List.mem_of_getElem? (i := 151) (by decide +kernel)
set_option maxRecDepth 20000 in
theorem ls_X7_bad : Cond.selects RX7 yX7_bad yX7_bad ∈ WL := List.mem_of_getElem? (i := 152) (by decide +kernel)
set_option maxRecDepth 20000 in
theorem cw_X7_331 : CWV RX7 331 RX7 yX7_bad cX7_bad 1 (some .int) 0 := CWV.mk lk_X7_331 li_X7_bad ls_X7_bad lk_ini7 lc_X7_bad (by decide +kernel)
set_option maxRecDepth 20000 in
theorem lk_X7_313 : Cond.methodLink RX7 313 yX7_full ∈ WL := List.mem_of_getElem? (i := 154) (by decide +kernel)
set_option maxRecDepth 20000 in
theorem lk_X7_334 : Cond.methodLink RX7 334 yX7_writes ∈ WL := List.mem_of_getElem? (i := 338) (by decide +kernel)
set_option maxRecDepth 20000 in
theorem lc_X7_writes : Cond.code yX7_writes cX7_writes 3 none ∈ WL := List.mem_of_getElem? (i := 341) (by decide +kernel)
set_option maxRecDepth 20000 in
theorem li_X7_writes : Cond.instanceMethod yX7_writes ∈ WL := List.mem_of_getElem? (i := 339) (by decide +kernel)
set_option maxRecDepth 20000 in
theorem ls_X7_writes : Cond.selects RX7 yX7_writes yX7_writes ∈ WL := List.mem_of_getElem? (i := 340) (by decide +kernel)
set_option maxRecDepth 20000 in
theorem cw_X7_334 : CWV RX7 334 RX7 yX7_writes cX7_writes 3 none 1 := CWV.mk lk_X7_334 li_X7_writes ls_X7_writes lk_ini7 lc_X7_writes (by decide +kernel)
set_option maxRecDepth 20000 in
theorem lk_X7_316 : Cond.methodLink RX7 316 yX7_leavesState ∈ WL := List.mem_of_getElem? (i := 356) (by decide +kernel)
set_option maxRecDepth 20000 in
theorem lc_X7_leavesState : Cond.code yX7_leavesState cX7_leavesState 2 none ∈ WL := List.mem_of_getElem? (i := 359) (by decide +kernel)
set_option maxRecDepth 20000 in
theorem li_X7_leavesState : Cond.instanceMethod yX7_leavesState ∈ WL := List.mem_of_getElem? (i := 357) (by decide +kernel)
set_option maxRecDepth 20000 in
theorem ls_X7_leavesState : Cond.selects RX7 yX7_leavesState yX7_leavesState ∈ WL := List.mem_of_getElem? (i := 358) (by decide +kernel)
set_option maxRecDepth 20000 in
theorem cw_X7_316 : CWV RX7 316 RX7 yX7_leavesState cX7_leavesState 2 none 0 := CWV.mk lk_X7_316 li_X7_leavesState ls_X7_leavesState lk_ini7 lc_X7_leavesState (by decide +kernel)
set_option maxRecDepth 20000 in
theorem lk_X7_337 : Cond.methodLink RX7 337 yX7_settles ∈ WL := List.mem_of_getElem? (i := 598) (by decide +kernel)
set_option maxRecDepth 20000 in
theorem lc_X7_settles : Cond.code yX7_settles cX7_settles 6 none ∈ WL := List.mem_of_getElem? (i := 601) (by decide +kernel)
set_option maxRecDepth 20000 in
theorem li_X7_settles : Cond.instanceMethod yX7_settles ∈ WL := List.mem_of_getElem? (i := 599) (by decide +kernel)
set_option maxRecDepth 20000 in
theorem ls_X7_settles : Cond.selects RX7 yX7_settles yX7_settles ∈ WL := List.mem_of_getElem? (i := 600) (by decide +kernel)
set_option maxRecDepth 20000 in
theorem cw_X7_337 : CWV RX7 337 RX7 yX7_settles cX7_settles 6 none 1 := CWV.mk lk_X7_337 li_X7_settles ls_X7_settles lk_ini7 lc_X7_settles (by decide +kernel)
set_option maxRecDepth 20000 in
theorem lk_X7_340 : Cond.methodLink RX7 340 yX7_nextStop ∈ WL := List.mem_of_getElem? (i := 630) (by decide +kernel)
set_option maxRecDepth 20000 in
theorem lc_X7_nextStop : Cond.code yX7_nextStop cX7_nextStop 5 (some .int) ∈ WL := List.mem_of_getElem? (i := 633) (by decide +kernel)
set_option maxRecDepth 20000 in
theorem li_X7_nextStop : Cond.instanceMethod yX7_nextStop ∈ WL := List.mem_of_getElem? (i := 631) (by decide +kernel)
set_option maxRecDepth 20000 in
theorem ls_X7_nextStop : Cond.selects RX7 yX7_nextStop yX7_nextStop ∈ WL := List.mem_of_getElem? (i := 632) (by decide +kernel)
set_option maxRecDepth 20000 in
theorem cw_X7_340 : CWV RX7 340 RX7 yX7_nextStop cX7_nextStop 5 (some .int) 3 := CWV.mk lk_X7_340 li_X7_nextStop ls_X7_nextStop lk_ini7 lc_X7_nextStop (by decide +kernel)
set_option maxRecDepth 20000 in
theorem lk_X7_343 : Cond.methodLink RX7 343 yX7_passesDown ∈ WL := List.mem_of_getElem? (i := 638) (by decide +kernel)
set_option maxRecDepth 20000 in
theorem lc_X7_passesDown : Cond.code yX7_passesDown cX7_passesDown 2 none ∈ WL := List.mem_of_getElem? (i := 641) (by decide +kernel)
set_option maxRecDepth 20000 in
theorem li_X7_passesDown : Cond.instanceMethod yX7_passesDown ∈ WL := List.mem_of_getElem? (i := 639) (by decide +kernel)
set_option maxRecDepth 20000 in
theorem ls_X7_passesDown : Cond.selects RX7 yX7_passesDown yX7_passesDown ∈ WL := List.mem_of_getElem? (i := 640) (by decide +kernel)
set_option maxRecDepth 20000 in
theorem cw_X7_343 : CWV RX7 343 RX7 yX7_passesDown cX7_passesDown 2 none 0 := CWV.mk lk_X7_343 li_X7_passesDown ls_X7_passesDown lk_ini7 lc_X7_passesDown (by decide +kernel)
set_option maxRecDepth 20000 in
theorem lk_X7_346 : Cond.methodLink RX7 346 yX7_reads ∈ WL := List.mem_of_getElem? (i := 534) (by decide +kernel)
set_option maxRecDepth 20000 in
theorem lc_X7_reads : Cond.code yX7_reads cX7_reads 4 (some .boolean) ∈ WL := List.mem_of_getElem? (i := 537) (by decide +kernel)
set_option maxRecDepth 20000 in
theorem li_X7_reads : Cond.instanceMethod yX7_reads ∈ WL := List.mem_of_getElem? (i := 535) (by decide +kernel)
set_option maxRecDepth 20000 in
theorem ls_X7_reads : Cond.selects RX7 yX7_reads yX7_reads ∈ WL := List.mem_of_getElem? (i := 536) (by decide +kernel)
set_option maxRecDepth 20000 in
theorem cw_X7_346 : CWV RX7 346 RX7 yX7_reads cX7_reads 4 (some .boolean) 1 := CWV.mk lk_X7_346 li_X7_reads ls_X7_reads lk_ini7 lc_X7_reads (by decide +kernel)
set_option maxRecDepth 20000 in
theorem lk_X7_300 : Cond.methodLink RX7 300 yX7_no ∈ WL := List.mem_of_getElem? (i := 590) (by decide +kernel)
set_option maxRecDepth 20000 in
theorem lc_X7_no : Cond.code yX7_no cX7_no 1 (some .int) ∈ WL := List.mem_of_getElem? (i := 593) (by decide +kernel)
set_option maxRecDepth 20000 in
theorem li_X7_no : Cond.instanceMethod yX7_no ∈ WL := List.mem_of_getElem? (i := 591) (by decide +kernel)
set_option maxRecDepth 20000 in
theorem ls_X7_no : Cond.selects RX7 yX7_no yX7_no ∈ WL := List.mem_of_getElem? (i := 592) (by decide +kernel)
set_option maxRecDepth 20000 in
theorem cw_X7_300 : CWV RX7 300 RX7 yX7_no cX7_no 1 (some .int) 0 := CWV.mk lk_X7_300 li_X7_no ls_X7_no lk_ini7 lc_X7_no (by decide +kernel)
set_option maxRecDepth 20000 in
theorem lk_X7_349 : Cond.methodLink RX7 349 yX7_begun ∈ WL := List.mem_of_getElem? (i := 594) (by decide +kernel)
set_option maxRecDepth 20000 in
theorem lc_X7_begun : Cond.code yX7_begun cX7_begun 3 none ∈ WL := List.mem_of_getElem? (i := 597) (by decide +kernel)
set_option maxRecDepth 20000 in
theorem li_X7_begun : Cond.instanceMethod yX7_begun ∈ WL := List.mem_of_getElem? (i := 595) (by decide +kernel)
set_option maxRecDepth 20000 in
theorem ls_X7_begun : Cond.selects RX7 yX7_begun yX7_begun ∈ WL := List.mem_of_getElem? (i := 596) (by decide +kernel)
set_option maxRecDepth 20000 in
theorem cw_X7_349 : CWV RX7 349 RX7 yX7_begun cX7_begun 3 none 1 := CWV.mk lk_X7_349 li_X7_begun ls_X7_begun lk_ini7 lc_X7_begun (by decide +kernel)
set_option maxRecDepth 20000 in
theorem lk_X7_309 : Cond.methodLink RX7 309 yX7_isTooLong ∈ WL := List.mem_of_getElem? (i := 723) (by decide +kernel)
set_option maxRecDepth 20000 in
theorem lc_X7_isTooLong : Cond.code yX7_isTooLong cX7_isTooLong 2 (some .boolean) ∈ WL := List.mem_of_getElem? (i := 726) (by decide +kernel)
set_option maxRecDepth 20000 in
theorem li_X7_isTooLong : Cond.instanceMethod yX7_isTooLong ∈ WL := List.mem_of_getElem? (i := 724) (by decide +kernel)
set_option maxRecDepth 20000 in
theorem ls_X7_isTooLong : Cond.selects RX7 yX7_isTooLong yX7_isTooLong ∈ WL := List.mem_of_getElem? (i := 725) (by decide +kernel)
set_option maxRecDepth 20000 in
theorem cw_X7_309 : CWV RX7 309 RX7 yX7_isTooLong cX7_isTooLong 2 (some .boolean) 0 := CWV.mk lk_X7_309 li_X7_isTooLong ls_X7_isTooLong lk_ini7 lc_X7_isTooLong (by decide +kernel)
set_option maxRecDepth 20000 in
theorem lk_X7_303 : Cond.methodLink RX7 303 yX7_restores ∈ WL := List.mem_of_getElem? (i := 731) (by decide +kernel)
set_option maxRecDepth 20000 in
theorem lk_X7_352 : Cond.methodLink RX7 352 yX7_finishes ∈ WL := List.mem_of_getElem? (i := 743) (by decide +kernel)
set_option maxRecDepth 20000 in
theorem lc_X7_finishes : Cond.code yX7_finishes cX7_finishes 4 none ∈ WL := List.mem_of_getElem? (i := 746) (by decide +kernel)
set_option maxRecDepth 20000 in
theorem li_X7_finishes : Cond.instanceMethod yX7_finishes ∈ WL := List.mem_of_getElem? (i := 744) (by decide +kernel)
set_option maxRecDepth 20000 in
theorem ls_X7_finishes : Cond.selects RX7 yX7_finishes yX7_finishes ∈ WL := List.mem_of_getElem? (i := 745) (by decide +kernel)
set_option maxRecDepth 20000 in
theorem cw_X7_352 : CWV RX7 352 RX7 yX7_finishes cX7_finishes 4 none 0 := CWV.mk lk_X7_352 li_X7_finishes ls_X7_finishes lk_ini7 lc_X7_finishes (by decide +kernel)
set_option maxRecDepth 20000 in
theorem lk_X7_358 : Cond.methodLink RX7 358 yX7_typed ∈ WL := List.mem_of_getElem? (i := 783) (by decide +kernel)
set_option maxRecDepth 20000 in
theorem lk_X7_361 : Cond.methodLink RX7 361 yX7_rubbed ∈ WL := List.mem_of_getElem? (i := 827) (by decide +kernel)
set_option maxRecDepth 20000 in
theorem lk_X7_364 : Cond.methodLink RX7 364 yX7_goesOut ∈ WL := List.mem_of_getElem? (i := 831) (by decide +kernel)
set_option maxRecDepth 20000 in
theorem lk_X7_367 : Cond.methodLink RX7 367 yX7_goesTo ∈ WL := List.mem_of_getElem? (i := 849) (by decide +kernel)
set_option maxRecDepth 20000 in
theorem lk_X7_370 : Cond.methodLink RX7 370 yX7_choicesOf ∈ WL := List.mem_of_getElem? (i := 881) (by decide +kernel)
set_option maxRecDepth 20000 in
theorem lk_X7_373 : Cond.methodLink RX7 373 yX7_choiceOf ∈ WL := List.mem_of_getElem? (i := 885) (by decide +kernel)
set_option maxRecDepth 20000 in
theorem lk_X7_355 : Cond.methodLink RX7 355 yX7_doneBytes ∈ WL := List.mem_of_getElem? (i := 787) (by decide +kernel)
set_option maxRecDepth 20000 in
theorem lk_X7_376 : Cond.methodLink RX7 376 yX7_documentAt ∈ WL := List.mem_of_getElem? (i := 921) (by decide +kernel)
set_option maxRecDepth 20000 in
theorem lk_X7_379 : Cond.methodLink RX7 379 yX7_stopsThere ∈ WL := List.mem_of_getElem? (i := 942) (by decide +kernel)
set_option maxRecDepth 20000 in
theorem lk_X7_382 : Cond.methodLink RX7 382 yX7_countOf ∈ WL := List.mem_of_getElem? (i := 938) (by decide +kernel)
set_option maxRecDepth 20000 in
theorem lc_X7_countOf : Cond.code yX7_countOf cX7_countOf 3 (some .int) ∈ WL := List.mem_of_getElem? (i := 941) (by decide +kernel)
set_option maxRecDepth 20000 in
theorem li_X7_countOf : Cond.instanceMethod yX7_countOf ∈ WL := List.mem_of_getElem? (i := 939) (by decide +kernel)
set_option maxRecDepth 20000 in
theorem ls_X7_countOf : Cond.selects RX7 yX7_countOf yX7_countOf ∈ WL := List.mem_of_getElem? (i := 940) (by decide +kernel)
set_option maxRecDepth 20000 in
theorem cw_X7_382 : CWV RX7 382 RX7 yX7_countOf cX7_countOf 3 (some .int) 1 := CWV.mk lk_X7_382 li_X7_countOf ls_X7_countOf lk_ini7 lc_X7_countOf (by decide +kernel)
set_option maxRecDepth 20000 in
theorem lk_X7_391 : Cond.methodLink RX7 391 yX7_stopIs ∈ WL := List.mem_of_getElem? (i := 957) (by decide +kernel)
set_option maxRecDepth 20000 in
theorem lk_X7_385 : Cond.methodLink RX7 385 yX7_heldBytes ∈ WL := List.mem_of_getElem? (i := 961) (by decide +kernel)
set_option maxRecDepth 20000 in
theorem lk_X7_397 : Cond.methodLink RX7 397 yX7_occurrenceIs ∈ WL := List.mem_of_getElem? (i := 1013) (by decide +kernel)
set_option maxRecDepth 20000 in
theorem lk_X7_400 : Cond.methodLink RX7 400 yX7_areLike ∈ WL := List.mem_of_getElem? (i := 1038) (by decide +kernel)
set_option maxRecDepth 20000 in
theorem lk_X7_403 : Cond.methodLink RX7 403 yX7_toldOf ∈ WL := List.mem_of_getElem? (i := 1066) (by decide +kernel)
set_option maxRecDepth 20000 in
theorem lc_X7_toldOf : Cond.code yX7_toldOf cX7_toldOf 2 (some .int) ∈ WL := List.mem_of_getElem? (i := 1069) (by decide +kernel)
set_option maxRecDepth 20000 in
theorem li_X7_toldOf : Cond.instanceMethod yX7_toldOf ∈ WL := List.mem_of_getElem? (i := 1067) (by decide +kernel)
set_option maxRecDepth 20000 in
theorem ls_X7_toldOf : Cond.selects RX7 yX7_toldOf yX7_toldOf ∈ WL := List.mem_of_getElem? (i := 1068) (by decide +kernel)
set_option maxRecDepth 20000 in
theorem cw_X7_403 : CWV RX7 403 RX7 yX7_toldOf cX7_toldOf 2 (some .int) 1 := CWV.mk lk_X7_403 li_X7_toldOf ls_X7_toldOf lk_ini7 lc_X7_toldOf (by decide +kernel)
set_option maxRecDepth 20000 in
theorem lk_X7_406 : Cond.constantLong RX7 406 (1870) ∈ WL := List.mem_of_getElem? (i := 1083) (by decide +kernel)
set_option maxRecDepth 20000 in
theorem lk_X7_408 : Cond.constantLong RX7 408 (31) ∈ WL := List.mem_of_getElem? (i := 1084) (by decide +kernel)
set_option maxRecDepth 20000 in
theorem lk_L_7 : Cond.classLink RL 7 RX6 ∈ WL := List.mem_of_getElem? (i := 0) (by decide +kernel)
set_option maxRecDepth 20000 in
theorem lk_L_9 : Cond.methodLink RL 9 yX6_init ∈ WL := List.mem_of_getElem? (i := 6) (by decide +kernel)
set_option maxRecDepth 20000 in
theorem lc_X6_init : Cond.code yX6_init cX6_init 3 none ∈ WL := List.mem_of_getElem? (i := 8) (by decide +kernel)
set_option maxRecDepth 20000 in
theorem li_X6_init : Cond.instanceMethod yX6_init ∈ WL := List.mem_of_getElem? (i := 7) (by decide +kernel)
set_option maxRecDepth 20000 in
theorem cw_L_9 : CWI RL 9 yX6_init cX6_init 3 0 := ⟨gCode lc_X6_init, lk_ini6, lk_L_9, li_X6_init, rfl, by decide +kernel⟩
set_option maxRecDepth 20000 in
theorem lk_L_10 : Cond.classLink RL 10 RX7 ∈ WL := List.mem_of_getElem? (i := 3) (by decide +kernel)
set_option maxRecDepth 20000 in
theorem lk_L_12 : Cond.methodLink RL 12 yX7_init ∈ WL := List.mem_of_getElem? (i := 81) (by decide +kernel)
set_option maxRecDepth 20000 in
theorem lc_X7_init : Cond.code yX7_init cX7_init 1 none ∈ WL := List.mem_of_getElem? (i := 83) (by decide +kernel)
set_option maxRecDepth 20000 in
theorem li_X7_init : Cond.instanceMethod yX7_init ∈ WL := List.mem_of_getElem? (i := 82) (by decide +kernel)
set_option maxRecDepth 20000 in
theorem cw_L_12 : CWI RL 12 yX7_init cX7_init 1 0 := ⟨gCode lc_X7_init, lk_ini7, lk_L_12, li_X7_init, rfl, by decide +kernel⟩
set_option maxRecDepth 20000 in
theorem lk_L_13 : Cond.methodLink RL 13 yX6_type ∈ WL := List.mem_of_getElem? (i := 118) (by decide +kernel)
set_option maxRecDepth 20000 in
theorem lc_X6_type : Cond.code yX6_type cX6_type 2 (some .int) ∈ WL := List.mem_of_getElem? (i := 121) (by decide +kernel)
set_option maxRecDepth 20000 in
theorem li_X6_type : Cond.instanceMethod yX6_type ∈ WL := List.mem_of_getElem? (i := 119) (by decide +kernel)
set_option maxRecDepth 20000 in
theorem ls_X6_type : Cond.selects RX6 yX6_type yX6_type ∈ WL := List.mem_of_getElem? (i := 120) (by decide +kernel)
set_option maxRecDepth 20000 in
theorem cw_L_13 : CWV RL 13 RX6 yX6_type cX6_type 2 (some .int) 1 := CWV.mk lk_L_13 li_X6_type ls_X6_type lk_ini6 lc_X6_type (by decide +kernel)
set_option maxRecDepth 20000 in
theorem lk_L_17 : Cond.methodLink RL 17 yX7_type ∈ WL := List.mem_of_getElem? (i := 142) (by decide +kernel)
set_option maxRecDepth 20000 in
theorem lc_X7_type : Cond.code yX7_type cX7_type 2 (some .int) ∈ WL := List.mem_of_getElem? (i := 145) (by decide +kernel)
set_option maxRecDepth 20000 in
theorem li_X7_type : Cond.instanceMethod yX7_type ∈ WL := List.mem_of_getElem? (i := 143) (by decide +kernel)
set_option maxRecDepth 20000 in
theorem ls_X7_type : Cond.selects RX7 yX7_type yX7_type ∈ WL := List.mem_of_getElem? (i := 144) (by decide +kernel)
set_option maxRecDepth 20000 in
theorem cw_L_17 : CWV RL 17 RX7 yX7_type cX7_type 2 (some .int) 1 := CWV.mk lk_L_17 li_X7_type ls_X7_type lk_ini7 lc_X7_type (by decide +kernel)
set_option maxRecDepth 20000 in
theorem lk_L_18 : Cond.methodLink RL 18 yX6_clear ∈ WL := List.mem_of_getElem? (i := 158) (by decide +kernel)
set_option maxRecDepth 20000 in
theorem lc_X6_clear : Cond.code yX6_clear cX6_clear 2 (some .int) ∈ WL := List.mem_of_getElem? (i := 161) (by decide +kernel)
set_option maxRecDepth 20000 in
theorem li_X6_clear : Cond.instanceMethod yX6_clear ∈ WL := List.mem_of_getElem? (i := 159) (by decide +kernel)
set_option maxRecDepth 20000 in
theorem ls_X6_clear : Cond.selects RX6 yX6_clear yX6_clear ∈ WL := List.mem_of_getElem? (i := 160) (by decide +kernel)
set_option maxRecDepth 20000 in
theorem cw_L_18 : CWV RL 18 RX6 yX6_clear cX6_clear 2 (some .int) 0 := CWV.mk lk_L_18 li_X6_clear ls_X6_clear lk_ini6 lc_X6_clear (by decide +kernel)
set_option maxRecDepth 20000 in
theorem lk_L_22 : Cond.methodLink RL 22 yX7_clear ∈ WL := List.mem_of_getElem? (i := 166) (by decide +kernel)
set_option maxRecDepth 20000 in
theorem lc_X7_clear : Cond.code yX7_clear cX7_clear 2 (some .int) ∈ WL := List.mem_of_getElem? (i := 169) (by decide +kernel)
set_option maxRecDepth 20000 in
theorem li_X7_clear : Cond.instanceMethod yX7_clear ∈ WL := List.mem_of_getElem? (i := 167) (by decide +kernel)
set_option maxRecDepth 20000 in
theorem ls_X7_clear : Cond.selects RX7 yX7_clear yX7_clear ∈ WL := List.mem_of_getElem? (i := 168) (by decide +kernel)
set_option maxRecDepth 20000 in
theorem cw_L_22 : CWV RL 22 RX7 yX7_clear cX7_clear 2 (some .int) 0 := CWV.mk lk_L_22 li_X7_clear ls_X7_clear lk_ini7 lc_X7_clear (by decide +kernel)
set_option maxRecDepth 20000 in
theorem lk_L_23 : Cond.methodLink RL 23 yX6_variable ∈ WL := List.mem_of_getElem? (i := 170) (by decide +kernel)
set_option maxRecDepth 20000 in
theorem lc_X6_variable : Cond.code yX6_variable cX6_variable 2 (some .int) ∈ WL := List.mem_of_getElem? (i := 173) (by decide +kernel)
set_option maxRecDepth 20000 in
theorem li_X6_variable : Cond.instanceMethod yX6_variable ∈ WL := List.mem_of_getElem? (i := 171) (by decide +kernel)
set_option maxRecDepth 20000 in
theorem ls_X6_variable : Cond.selects RX6 yX6_variable yX6_variable ∈ WL := List.mem_of_getElem? (i := 172) (by decide +kernel)
set_option maxRecDepth 20000 in
theorem cw_L_23 : CWV RL 23 RX6 yX6_variable cX6_variable 2 (some .int) 1 := CWV.mk lk_L_23 li_X6_variable ls_X6_variable lk_ini6 lc_X6_variable (by decide +kernel)
set_option maxRecDepth 20000 in
theorem lk_L_26 : Cond.methodLink RL 26 yX7_variable ∈ WL := List.mem_of_getElem? (i := 334) (by decide +kernel)
set_option maxRecDepth 20000 in
theorem lc_X7_variable : Cond.code yX7_variable cX7_variable 4 (some .int) ∈ WL := List.mem_of_getElem? (i := 337) (by decide +kernel)
set_option maxRecDepth 20000 in
theorem li_X7_variable : Cond.instanceMethod yX7_variable ∈ WL := List.mem_of_getElem? (i := 335) (by decide +kernel)
set_option maxRecDepth 20000 in
theorem ls_X7_variable : Cond.selects RX7 yX7_variable yX7_variable ∈ WL := List.mem_of_getElem? (i := 336) (by decide +kernel)
set_option maxRecDepth 20000 in
theorem cw_L_26 : CWV RL 26 RX7 yX7_variable cX7_variable 4 (some .int) 1 := CWV.mk lk_L_26 li_X7_variable ls_X7_variable lk_ini7 lc_X7_variable (by decide +kernel)
set_option maxRecDepth 20000 in
theorem lk_L_27 : Cond.methodLink RL 27 yX6_begins ∈ WL := List.mem_of_getElem? (i := 365) (by decide +kernel)
set_option maxRecDepth 20000 in
theorem lc_X6_begins : Cond.code yX6_begins cX6_begins 4 (some .int) ∈ WL := List.mem_of_getElem? (i := 368) (by decide +kernel)
set_option maxRecDepth 20000 in
theorem li_X6_begins : Cond.instanceMethod yX6_begins ∈ WL := List.mem_of_getElem? (i := 366) (by decide +kernel)
set_option maxRecDepth 20000 in
theorem ls_X6_begins : Cond.selects RX6 yX6_begins yX6_begins ∈ WL := List.mem_of_getElem? (i := 367) (by decide +kernel)
set_option maxRecDepth 20000 in
theorem cw_L_27 : CWV RL 27 RX6 yX6_begins cX6_begins 4 (some .int) 0 := CWV.mk lk_L_27 li_X6_begins ls_X6_begins lk_ini6 lc_X6_begins (by decide +kernel)
set_option maxRecDepth 20000 in
theorem lk_L_30 : Cond.methodLink RL 30 yX7_begins ∈ WL := List.mem_of_getElem? (i := 529) (by decide +kernel)
set_option maxRecDepth 20000 in
theorem lc_X7_begins : Cond.code yX7_begins cX7_begins 3 (some .int) ∈ WL := List.mem_of_getElem? (i := 532) (by decide +kernel)
set_option maxRecDepth 20000 in
theorem li_X7_begins : Cond.instanceMethod yX7_begins ∈ WL := List.mem_of_getElem? (i := 530) (by decide +kernel)
set_option maxRecDepth 20000 in
theorem ls_X7_begins : Cond.selects RX7 yX7_begins yX7_begins ∈ WL := List.mem_of_getElem? (i := 531) (by decide +kernel)
set_option maxRecDepth 20000 in
theorem cw_L_30 : CWV RL 30 RX7 yX7_begins cX7_begins 3 (some .int) 0 := CWV.mk lk_L_30 li_X7_begins ls_X7_begins lk_ini7 lc_X7_begins (by decide +kernel)
set_option maxRecDepth 20000 in
theorem lk_L_31 : Cond.methodLink RL 31 yX6_key ∈ WL := List.mem_of_getElem? (i := 755) (by decide +kernel)
set_option maxRecDepth 20000 in
theorem lc_X6_key : Cond.code yX6_key cX6_key 3 (some .int) ∈ WL := List.mem_of_getElem? (i := 758) (by decide +kernel)
set_option maxRecDepth 20000 in
theorem li_X6_key : Cond.instanceMethod yX6_key ∈ WL := List.mem_of_getElem? (i := 756) (by decide +kernel)
set_option maxRecDepth 20000 in
theorem ls_X6_key : Cond.selects RX6 yX6_key yX6_key ∈ WL := List.mem_of_getElem? (i := 757) (by decide +kernel)
set_option maxRecDepth 20000 in
theorem cw_L_31 : CWV RL 31 RX6 yX6_key cX6_key 3 (some .int) 1 := CWV.mk lk_L_31 li_X6_key ls_X6_key lk_ini6 lc_X6_key (by decide +kernel)
set_option maxRecDepth 20000 in
theorem lk_L_34 : Cond.methodLink RL 34 yX7_key ∈ WL := List.mem_of_getElem? (i := 779) (by decide +kernel)
set_option maxRecDepth 20000 in
theorem lc_X7_key : Cond.code yX7_key cX7_key 2 (some .int) ∈ WL := List.mem_of_getElem? (i := 782) (by decide +kernel)
set_option maxRecDepth 20000 in
theorem li_X7_key : Cond.instanceMethod yX7_key ∈ WL := List.mem_of_getElem? (i := 780) (by decide +kernel)
set_option maxRecDepth 20000 in
theorem ls_X7_key : Cond.selects RX7 yX7_key yX7_key ∈ WL := List.mem_of_getElem? (i := 781) (by decide +kernel)
set_option maxRecDepth 20000 in
theorem cw_L_34 : CWV RL 34 RX7 yX7_key cX7_key 2 (some .int) 1 := CWV.mk lk_L_34 li_X7_key ls_X7_key lk_ini7 lc_X7_key (by decide +kernel)
set_option maxRecDepth 20000 in
theorem lk_L_35 : Cond.methodLink RL 35 yX6_rubs ∈ WL := List.mem_of_getElem? (i := 795) (by decide +kernel)
set_option maxRecDepth 20000 in
theorem lc_X6_rubs : Cond.code yX6_rubs cX6_rubs 2 (some .int) ∈ WL := List.mem_of_getElem? (i := 798) (by decide +kernel)
set_option maxRecDepth 20000 in
theorem li_X6_rubs : Cond.instanceMethod yX6_rubs ∈ WL := List.mem_of_getElem? (i := 796) (by decide +kernel)
set_option maxRecDepth 20000 in
theorem ls_X6_rubs : Cond.selects RX6 yX6_rubs yX6_rubs ∈ WL := List.mem_of_getElem? (i := 797) (by decide +kernel)
set_option maxRecDepth 20000 in
theorem cw_L_35 : CWV RL 35 RX6 yX6_rubs cX6_rubs 2 (some .int) 0 := CWV.mk lk_L_35 li_X6_rubs ls_X6_rubs lk_ini6 lc_X6_rubs (by decide +kernel)
set_option maxRecDepth 20000 in
theorem lk_L_38 : Cond.methodLink RL 38 yX7_rubs ∈ WL := List.mem_of_getElem? (i := 823) (by decide +kernel)
set_option maxRecDepth 20000 in
theorem lc_X7_rubs : Cond.code yX7_rubs cX7_rubs 1 (some .int) ∈ WL := List.mem_of_getElem? (i := 826) (by decide +kernel)
set_option maxRecDepth 20000 in
theorem li_X7_rubs : Cond.instanceMethod yX7_rubs ∈ WL := List.mem_of_getElem? (i := 824) (by decide +kernel)
set_option maxRecDepth 20000 in
theorem ls_X7_rubs : Cond.selects RX7 yX7_rubs yX7_rubs ∈ WL := List.mem_of_getElem? (i := 825) (by decide +kernel)
set_option maxRecDepth 20000 in
theorem cw_L_38 : CWV RL 38 RX7 yX7_rubs cX7_rubs 1 (some .int) 0 := CWV.mk lk_L_38 li_X7_rubs ls_X7_rubs lk_ini7 lc_X7_rubs (by decide +kernel)
set_option maxRecDepth 20000 in
theorem lk_L_39 : Cond.methodLink RL 39 yX6_nexts ∈ WL := List.mem_of_getElem? (i := 835) (by decide +kernel)
set_option maxRecDepth 20000 in
theorem lc_X6_nexts : Cond.code yX6_nexts cX6_nexts 3 (some .int) ∈ WL := List.mem_of_getElem? (i := 838) (by decide +kernel)
set_option maxRecDepth 20000 in
theorem li_X6_nexts : Cond.instanceMethod yX6_nexts ∈ WL := List.mem_of_getElem? (i := 836) (by decide +kernel)
set_option maxRecDepth 20000 in
theorem ls_X6_nexts : Cond.selects RX6 yX6_nexts yX6_nexts ∈ WL := List.mem_of_getElem? (i := 837) (by decide +kernel)
set_option maxRecDepth 20000 in
theorem cw_L_39 : CWV RL 39 RX6 yX6_nexts cX6_nexts 3 (some .int) 0 := CWV.mk lk_L_39 li_X6_nexts ls_X6_nexts lk_ini6 lc_X6_nexts (by decide +kernel)
set_option maxRecDepth 20000 in
theorem lk_L_42 : Cond.methodLink RL 42 yX7_nexts ∈ WL := List.mem_of_getElem? (i := 845) (by decide +kernel)
set_option maxRecDepth 20000 in
theorem lc_X7_nexts : Cond.code yX7_nexts cX7_nexts 2 (some .int) ∈ WL := List.mem_of_getElem? (i := 848) (by decide +kernel)
set_option maxRecDepth 20000 in
theorem li_X7_nexts : Cond.instanceMethod yX7_nexts ∈ WL := List.mem_of_getElem? (i := 846) (by decide +kernel)
set_option maxRecDepth 20000 in
theorem ls_X7_nexts : Cond.selects RX7 yX7_nexts yX7_nexts ∈ WL := List.mem_of_getElem? (i := 847) (by decide +kernel)
set_option maxRecDepth 20000 in
theorem cw_L_42 : CWV RL 42 RX7 yX7_nexts cX7_nexts 2 (some .int) 0 := CWV.mk lk_L_42 li_X7_nexts ls_X7_nexts lk_ini7 lc_X7_nexts (by decide +kernel)
set_option maxRecDepth 20000 in
theorem lk_L_43 : Cond.methodLink RL 43 yX6_prevs ∈ WL := List.mem_of_getElem? (i := 853) (by decide +kernel)
set_option maxRecDepth 20000 in
theorem lc_X6_prevs : Cond.code yX6_prevs cX6_prevs 3 (some .int) ∈ WL := List.mem_of_getElem? (i := 856) (by decide +kernel)
set_option maxRecDepth 20000 in
theorem li_X6_prevs : Cond.instanceMethod yX6_prevs ∈ WL := List.mem_of_getElem? (i := 854) (by decide +kernel)
set_option maxRecDepth 20000 in
theorem ls_X6_prevs : Cond.selects RX6 yX6_prevs yX6_prevs ∈ WL := List.mem_of_getElem? (i := 855) (by decide +kernel)
set_option maxRecDepth 20000 in
theorem cw_L_43 : CWV RL 43 RX6 yX6_prevs cX6_prevs 3 (some .int) 0 := CWV.mk lk_L_43 li_X6_prevs ls_X6_prevs lk_ini6 lc_X6_prevs (by decide +kernel)
set_option maxRecDepth 20000 in
theorem lk_L_46 : Cond.methodLink RL 46 yX7_prevs ∈ WL := List.mem_of_getElem? (i := 861) (by decide +kernel)
set_option maxRecDepth 20000 in
theorem lc_X7_prevs : Cond.code yX7_prevs cX7_prevs 2 (some .int) ∈ WL := List.mem_of_getElem? (i := 864) (by decide +kernel)
set_option maxRecDepth 20000 in
theorem li_X7_prevs : Cond.instanceMethod yX7_prevs ∈ WL := List.mem_of_getElem? (i := 862) (by decide +kernel)
set_option maxRecDepth 20000 in
theorem ls_X7_prevs : Cond.selects RX7 yX7_prevs yX7_prevs ∈ WL := List.mem_of_getElem? (i := 863) (by decide +kernel)
set_option maxRecDepth 20000 in
theorem cw_L_46 : CWV RL 46 RX7 yX7_prevs cX7_prevs 2 (some .int) 0 := CWV.mk lk_L_46 li_X7_prevs ls_X7_prevs lk_ini7 lc_X7_prevs (by decide +kernel)
set_option maxRecDepth 20000 in
theorem lk_L_47 : Cond.methodLink RL 47 yX6_picks ∈ WL := List.mem_of_getElem? (i := 865) (by decide +kernel)
set_option maxRecDepth 20000 in
theorem lc_X6_picks : Cond.code yX6_picks cX6_picks 3 (some .int) ∈ WL := List.mem_of_getElem? (i := 868) (by decide +kernel)
set_option maxRecDepth 20000 in
theorem li_X6_picks : Cond.instanceMethod yX6_picks ∈ WL := List.mem_of_getElem? (i := 866) (by decide +kernel)
set_option maxRecDepth 20000 in
theorem ls_X6_picks : Cond.selects RX6 yX6_picks yX6_picks ∈ WL := List.mem_of_getElem? (i := 867) (by decide +kernel)
set_option maxRecDepth 20000 in
theorem cw_L_47 : CWV RL 47 RX6 yX6_picks cX6_picks 3 (some .int) 1 := CWV.mk lk_L_47 li_X6_picks ls_X6_picks lk_ini6 lc_X6_picks (by decide +kernel)
set_option maxRecDepth 20000 in
theorem lk_L_50 : Cond.methodLink RL 50 yX7_picks ∈ WL := List.mem_of_getElem? (i := 877) (by decide +kernel)
set_option maxRecDepth 20000 in
theorem lc_X7_picks : Cond.code yX7_picks cX7_picks 5 (some .int) ∈ WL := List.mem_of_getElem? (i := 880) (by decide +kernel)
set_option maxRecDepth 20000 in
theorem li_X7_picks : Cond.instanceMethod yX7_picks ∈ WL := List.mem_of_getElem? (i := 878) (by decide +kernel)
set_option maxRecDepth 20000 in
theorem ls_X7_picks : Cond.selects RX7 yX7_picks yX7_picks ∈ WL := List.mem_of_getElem? (i := 879) (by decide +kernel)
set_option maxRecDepth 20000 in
theorem cw_L_50 : CWV RL 50 RX7 yX7_picks cX7_picks 5 (some .int) 1 := CWV.mk lk_L_50 li_X7_picks ls_X7_picks lk_ini7 lc_X7_picks (by decide +kernel)
set_option maxRecDepth 20000 in
theorem lk_L_51 : Cond.methodLink RL 51 yX6_ends ∈ WL := List.mem_of_getElem? (i := 889) (by decide +kernel)
set_option maxRecDepth 20000 in
theorem lc_X6_ends : Cond.code yX6_ends cX6_ends 1 (some .int) ∈ WL := List.mem_of_getElem? (i := 892) (by decide +kernel)
set_option maxRecDepth 20000 in
theorem li_X6_ends : Cond.instanceMethod yX6_ends ∈ WL := List.mem_of_getElem? (i := 890) (by decide +kernel)
set_option maxRecDepth 20000 in
theorem ls_X6_ends : Cond.selects RX6 yX6_ends yX6_ends ∈ WL := List.mem_of_getElem? (i := 891) (by decide +kernel)
set_option maxRecDepth 20000 in
theorem cw_L_51 : CWV RL 51 RX6 yX6_ends cX6_ends 1 (some .int) 0 := CWV.mk lk_L_51 li_X6_ends ls_X6_ends lk_ini6 lc_X6_ends (by decide +kernel)
set_option maxRecDepth 20000 in
theorem lk_L_54 : Cond.methodLink RL 54 yX7_ends ∈ WL := List.mem_of_getElem? (i := 893) (by decide +kernel)
set_option maxRecDepth 20000 in
theorem lc_X7_ends : Cond.code yX7_ends cX7_ends 1 (some .int) ∈ WL := List.mem_of_getElem? (i := 896) (by decide +kernel)
set_option maxRecDepth 20000 in
theorem li_X7_ends : Cond.instanceMethod yX7_ends ∈ WL := List.mem_of_getElem? (i := 894) (by decide +kernel)
set_option maxRecDepth 20000 in
theorem ls_X7_ends : Cond.selects RX7 yX7_ends yX7_ends ∈ WL := List.mem_of_getElem? (i := 895) (by decide +kernel)
set_option maxRecDepth 20000 in
theorem cw_L_54 : CWV RL 54 RX7 yX7_ends cX7_ends 1 (some .int) 0 := CWV.mk lk_L_54 li_X7_ends ls_X7_ends lk_ini7 lc_X7_ends (by decide +kernel)
set_option maxRecDepth 20000 in
theorem lk_L_55 : Cond.methodLink RL 55 yX6_caret ∈ WL := List.mem_of_getElem? (i := 897) (by decide +kernel)
set_option maxRecDepth 20000 in
theorem lc_X6_caret : Cond.code yX6_caret cX6_caret 3 (some .int) ∈ WL := List.mem_of_getElem? (i := 900) (by decide +kernel)
set_option maxRecDepth 20000 in
theorem li_X6_caret : Cond.instanceMethod yX6_caret ∈ WL := List.mem_of_getElem? (i := 898) (by decide +kernel)
set_option maxRecDepth 20000 in
theorem ls_X6_caret : Cond.selects RX6 yX6_caret yX6_caret ∈ WL := List.mem_of_getElem? (i := 899) (by decide +kernel)
set_option maxRecDepth 20000 in
theorem cw_L_55 : CWV RL 55 RX6 yX6_caret cX6_caret 3 (some .int) 1 := CWV.mk lk_L_55 li_X6_caret ls_X6_caret lk_ini6 lc_X6_caret (by decide +kernel)
set_option maxRecDepth 20000 in
theorem lk_L_58 : Cond.methodLink RL 58 yX7_caret ∈ WL := List.mem_of_getElem? (i := 901) (by decide +kernel)
set_option maxRecDepth 20000 in
theorem lc_X7_caret : Cond.code yX7_caret cX7_caret 3 (some .int) ∈ WL := List.mem_of_getElem? (i := 904) (by decide +kernel)
set_option maxRecDepth 20000 in
theorem li_X7_caret : Cond.instanceMethod yX7_caret ∈ WL := List.mem_of_getElem? (i := 902) (by decide +kernel)
set_option maxRecDepth 20000 in
theorem ls_X7_caret : Cond.selects RX7 yX7_caret yX7_caret ∈ WL := List.mem_of_getElem? (i := 903) (by decide +kernel)
set_option maxRecDepth 20000 in
theorem cw_L_58 : CWV RL 58 RX7 yX7_caret cX7_caret 3 (some .int) 1 := CWV.mk lk_L_58 li_X7_caret ls_X7_caret lk_ini7 lc_X7_caret (by decide +kernel)
set_option maxRecDepth 20000 in
theorem lk_L_59 : Cond.methodLink RL 59 yX6_cuts ∈ WL := List.mem_of_getElem? (i := 905) (by decide +kernel)
set_option maxRecDepth 20000 in
theorem lc_X6_cuts : Cond.code yX6_cuts cX6_cuts 4 (some .int) ∈ WL := List.mem_of_getElem? (i := 908) (by decide +kernel)
set_option maxRecDepth 20000 in
theorem li_X6_cuts : Cond.instanceMethod yX6_cuts ∈ WL := List.mem_of_getElem? (i := 906) (by decide +kernel)
set_option maxRecDepth 20000 in
theorem ls_X6_cuts : Cond.selects RX6 yX6_cuts yX6_cuts ∈ WL := List.mem_of_getElem? (i := 907) (by decide +kernel)
set_option maxRecDepth 20000 in
theorem cw_L_59 : CWV RL 59 RX6 yX6_cuts cX6_cuts 4 (some .int) 2 := CWV.mk lk_L_59 li_X6_cuts ls_X6_cuts lk_ini6 lc_X6_cuts (by decide +kernel)
set_option maxRecDepth 20000 in
theorem lk_L_63 : Cond.methodLink RL 63 yX7_cuts ∈ WL := List.mem_of_getElem? (i := 909) (by decide +kernel)
set_option maxRecDepth 20000 in
theorem lc_X7_cuts : Cond.code yX7_cuts cX7_cuts 5 (some .int) ∈ WL := List.mem_of_getElem? (i := 912) (by decide +kernel)
set_option maxRecDepth 20000 in
theorem li_X7_cuts : Cond.instanceMethod yX7_cuts ∈ WL := List.mem_of_getElem? (i := 910) (by decide +kernel)
set_option maxRecDepth 20000 in
theorem ls_X7_cuts : Cond.selects RX7 yX7_cuts yX7_cuts ∈ WL := List.mem_of_getElem? (i := 911) (by decide +kernel)
set_option maxRecDepth 20000 in
theorem cw_L_63 : CWV RL 63 RX7 yX7_cuts cX7_cuts 5 (some .int) 2 := CWV.mk lk_L_63 li_X7_cuts ls_X7_cuts lk_ini7 lc_X7_cuts (by decide +kernel)
set_option maxRecDepth 20000 in
theorem lk_L_64 : Cond.methodLink RL 64 yX6_at ∈ WL := List.mem_of_getElem? (i := 913) (by decide +kernel)
set_option maxRecDepth 20000 in
theorem lc_X6_at : Cond.code yX6_at cX6_at 2 (some .int) ∈ WL := List.mem_of_getElem? (i := 916) (by decide +kernel)
set_option maxRecDepth 20000 in
theorem li_X6_at : Cond.instanceMethod yX6_at ∈ WL := List.mem_of_getElem? (i := 914) (by decide +kernel)
set_option maxRecDepth 20000 in
theorem ls_X6_at : Cond.selects RX6 yX6_at yX6_at ∈ WL := List.mem_of_getElem? (i := 915) (by decide +kernel)
set_option maxRecDepth 20000 in
theorem cw_L_64 : CWV RL 64 RX6 yX6_at cX6_at 2 (some .int) 1 := CWV.mk lk_L_64 li_X6_at ls_X6_at lk_ini6 lc_X6_at (by decide +kernel)
set_option maxRecDepth 20000 in
theorem lk_L_67 : Cond.methodLink RL 67 yX7_at ∈ WL := List.mem_of_getElem? (i := 917) (by decide +kernel)
set_option maxRecDepth 20000 in
theorem lc_X7_at : Cond.code yX7_at cX7_at 2 (some .int) ∈ WL := List.mem_of_getElem? (i := 920) (by decide +kernel)
set_option maxRecDepth 20000 in
theorem li_X7_at : Cond.instanceMethod yX7_at ∈ WL := List.mem_of_getElem? (i := 918) (by decide +kernel)
set_option maxRecDepth 20000 in
theorem ls_X7_at : Cond.selects RX7 yX7_at yX7_at ∈ WL := List.mem_of_getElem? (i := 919) (by decide +kernel)
set_option maxRecDepth 20000 in
theorem cw_L_67 : CWV RL 67 RX7 yX7_at cX7_at 2 (some .int) 1 := CWV.mk lk_L_67 li_X7_at ls_X7_at lk_ini7 lc_X7_at (by decide +kernel)
set_option maxRecDepth 20000 in
theorem lk_L_68 : Cond.methodLink RL 68 yX6_count ∈ WL := List.mem_of_getElem? (i := 925) (by decide +kernel)
set_option maxRecDepth 20000 in
theorem cw_L_68 : CWV RL 68 RX6 yX6_count cX6_count 3 (some .int) 1 := CWV.mk lk_L_68 li_X6_count ls_X6_count lk_ini6 lc_X6_count (by decide +kernel)
set_option maxRecDepth 20000 in
theorem lk_L_71 : Cond.methodLink RL 71 yX7_count ∈ WL := List.mem_of_getElem? (i := 934) (by decide +kernel)
set_option maxRecDepth 20000 in
theorem lc_X7_count : Cond.code yX7_count cX7_count 2 (some .int) ∈ WL := List.mem_of_getElem? (i := 937) (by decide +kernel)
set_option maxRecDepth 20000 in
theorem li_X7_count : Cond.instanceMethod yX7_count ∈ WL := List.mem_of_getElem? (i := 935) (by decide +kernel)
set_option maxRecDepth 20000 in
theorem ls_X7_count : Cond.selects RX7 yX7_count yX7_count ∈ WL := List.mem_of_getElem? (i := 936) (by decide +kernel)
set_option maxRecDepth 20000 in
theorem cw_L_71 : CWV RL 71 RX7 yX7_count cX7_count 2 (some .int) 1 := CWV.mk lk_L_71 li_X7_count ls_X7_count lk_ini7 lc_X7_count (by decide +kernel)
set_option maxRecDepth 20000 in
theorem lk_L_72 : Cond.methodLink RL 72 yX6_stop ∈ WL := List.mem_of_getElem? (i := 946) (by decide +kernel)
set_option maxRecDepth 20000 in
theorem cw_L_72 : CWV RL 72 RX6 yX6_stop cX6_stop 4 (some .int) 2 := CWV.mk lk_L_72 li_X6_stop ls_X6_stop lk_ini6 lc_X6_stop (by decide +kernel)
set_option maxRecDepth 20000 in
theorem lk_L_75 : Cond.methodLink RL 75 yX7_stop ∈ WL := List.mem_of_getElem? (i := 953) (by decide +kernel)
set_option maxRecDepth 20000 in
theorem lc_X7_stop : Cond.code yX7_stop cX7_stop 3 (some .int) ∈ WL := List.mem_of_getElem? (i := 956) (by decide +kernel)
set_option maxRecDepth 20000 in
theorem li_X7_stop : Cond.instanceMethod yX7_stop ∈ WL := List.mem_of_getElem? (i := 954) (by decide +kernel)
set_option maxRecDepth 20000 in
theorem ls_X7_stop : Cond.selects RX7 yX7_stop yX7_stop ∈ WL := List.mem_of_getElem? (i := 955) (by decide +kernel)
set_option maxRecDepth 20000 in
theorem cw_L_75 : CWV RL 75 RX7 yX7_stop cX7_stop 3 (some .int) 2 := CWV.mk lk_L_75 li_X7_stop ls_X7_stop lk_ini7 lc_X7_stop (by decide +kernel)
set_option maxRecDepth 20000 in
theorem lk_L_76 : Cond.methodLink RL 76 yX6_held ∈ WL := List.mem_of_getElem? (i := 969) (by decide +kernel)
set_option maxRecDepth 20000 in
theorem lc_X6_held : Cond.code yX6_held cX6_held 4 (some .int) ∈ WL := List.mem_of_getElem? (i := 972) (by decide +kernel)
set_option maxRecDepth 20000 in
theorem li_X6_held : Cond.instanceMethod yX6_held ∈ WL := List.mem_of_getElem? (i := 970) (by decide +kernel)
set_option maxRecDepth 20000 in
theorem ls_X6_held : Cond.selects RX6 yX6_held yX6_held ∈ WL := List.mem_of_getElem? (i := 971) (by decide +kernel)
set_option maxRecDepth 20000 in
theorem cw_L_76 : CWV RL 76 RX6 yX6_held cX6_held 4 (some .int) 2 := CWV.mk lk_L_76 li_X6_held ls_X6_held lk_ini6 lc_X6_held (by decide +kernel)
set_option maxRecDepth 20000 in
theorem lk_L_79 : Cond.methodLink RL 79 yX7_held ∈ WL := List.mem_of_getElem? (i := 973) (by decide +kernel)
set_option maxRecDepth 20000 in
theorem lc_X7_held : Cond.code yX7_held cX7_held 3 (some .int) ∈ WL := List.mem_of_getElem? (i := 976) (by decide +kernel)
set_option maxRecDepth 20000 in
theorem li_X7_held : Cond.instanceMethod yX7_held ∈ WL := List.mem_of_getElem? (i := 974) (by decide +kernel)
set_option maxRecDepth 20000 in
theorem ls_X7_held : Cond.selects RX7 yX7_held yX7_held ∈ WL := List.mem_of_getElem? (i := 975) (by decide +kernel)
set_option maxRecDepth 20000 in
theorem cw_L_79 : CWV RL 79 RX7 yX7_held cX7_held 3 (some .int) 2 := CWV.mk lk_L_79 li_X7_held ls_X7_held lk_ini7 lc_X7_held (by decide +kernel)
set_option maxRecDepth 20000 in
theorem lk_L_80 : Cond.methodLink RL 80 yX6_choice ∈ WL := List.mem_of_getElem? (i := 977) (by decide +kernel)
set_option maxRecDepth 20000 in
theorem lc_X6_choice : Cond.code yX6_choice cX6_choice 5 (some .int) ∈ WL := List.mem_of_getElem? (i := 980) (by decide +kernel)
set_option maxRecDepth 20000 in
theorem li_X6_choice : Cond.instanceMethod yX6_choice ∈ WL := List.mem_of_getElem? (i := 978) (by decide +kernel)
set_option maxRecDepth 20000 in
theorem ls_X6_choice : Cond.selects RX6 yX6_choice yX6_choice ∈ WL := List.mem_of_getElem? (i := 979) (by decide +kernel)
set_option maxRecDepth 20000 in
theorem cw_L_80 : CWV RL 80 RX6 yX6_choice cX6_choice 5 (some .int) 3 := CWV.mk lk_L_80 li_X6_choice ls_X6_choice lk_ini6 lc_X6_choice (by decide +kernel)
set_option maxRecDepth 20000 in
theorem lk_L_84 : Cond.methodLink RL 84 yX7_choice ∈ WL := List.mem_of_getElem? (i := 983) (by decide +kernel)
set_option maxRecDepth 20000 in
theorem lc_X7_choice : Cond.code yX7_choice cX7_choice 6 (some .int) ∈ WL := List.mem_of_getElem? (i := 986) (by decide +kernel)
set_option maxRecDepth 20000 in
theorem li_X7_choice : Cond.instanceMethod yX7_choice ∈ WL := List.mem_of_getElem? (i := 984) (by decide +kernel)
set_option maxRecDepth 20000 in
theorem ls_X7_choice : Cond.selects RX7 yX7_choice yX7_choice ∈ WL := List.mem_of_getElem? (i := 985) (by decide +kernel)
set_option maxRecDepth 20000 in
theorem cw_L_84 : CWV RL 84 RX7 yX7_choice cX7_choice 6 (some .int) 3 := CWV.mk lk_L_84 li_X7_choice ls_X7_choice lk_ini7 lc_X7_choice (by decide +kernel)
set_option maxRecDepth 20000 in
theorem lk_L_85 : Cond.methodLink RL 85 yX6_occurrence ∈ WL := List.mem_of_getElem? (i := 987) (by decide +kernel)
set_option maxRecDepth 20000 in
theorem lc_X6_occurrence : Cond.code yX6_occurrence cX6_occurrence 6 (some .int) ∈ WL := List.mem_of_getElem? (i := 990) (by decide +kernel)
set_option maxRecDepth 20000 in
theorem li_X6_occurrence : Cond.instanceMethod yX6_occurrence ∈ WL := List.mem_of_getElem? (i := 988) (by decide +kernel)
set_option maxRecDepth 20000 in
theorem ls_X6_occurrence : Cond.selects RX6 yX6_occurrence yX6_occurrence ∈ WL := List.mem_of_getElem? (i := 989) (by decide +kernel)
set_option maxRecDepth 20000 in
theorem cw_L_85 : CWV RL 85 RX6 yX6_occurrence cX6_occurrence 6 (some .int) 3 := CWV.mk lk_L_85 li_X6_occurrence ls_X6_occurrence lk_ini6 lc_X6_occurrence (by decide +kernel)
set_option maxRecDepth 20000 in
theorem lk_L_88 : Cond.methodLink RL 88 yX7_occurrence ∈ WL := List.mem_of_getElem? (i := 1009) (by decide +kernel)
set_option maxRecDepth 20000 in
theorem lc_X7_occurrence : Cond.code yX7_occurrence cX7_occurrence 7 (some .int) ∈ WL := List.mem_of_getElem? (i := 1012) (by decide +kernel)
set_option maxRecDepth 20000 in
theorem li_X7_occurrence : Cond.instanceMethod yX7_occurrence ∈ WL := List.mem_of_getElem? (i := 1010) (by decide +kernel)
set_option maxRecDepth 20000 in
theorem ls_X7_occurrence : Cond.selects RX7 yX7_occurrence yX7_occurrence ∈ WL := List.mem_of_getElem? (i := 1011) (by decide +kernel)
set_option maxRecDepth 20000 in
theorem cw_L_88 : CWV RL 88 RX7 yX7_occurrence cX7_occurrence 7 (some .int) 3 := CWV.mk lk_L_88 li_X7_occurrence ls_X7_occurrence lk_ini7 lc_X7_occurrence (by decide +kernel)
set_option maxRecDepth 20000 in
theorem lk_L_89 : Cond.methodLink RL 89 yX6_unlike ∈ WL := List.mem_of_getElem? (i := 1021) (by decide +kernel)
set_option maxRecDepth 20000 in
theorem lc_X6_unlike : Cond.code yX6_unlike cX6_unlike 2 (some .int) ∈ WL := List.mem_of_getElem? (i := 1024) (by decide +kernel)
set_option maxRecDepth 20000 in
theorem li_X6_unlike : Cond.instanceMethod yX6_unlike ∈ WL := List.mem_of_getElem? (i := 1022) (by decide +kernel)
set_option maxRecDepth 20000 in
theorem ls_X6_unlike : Cond.selects RX6 yX6_unlike yX6_unlike ∈ WL := List.mem_of_getElem? (i := 1023) (by decide +kernel)
set_option maxRecDepth 20000 in
theorem cw_L_89 : CWV RL 89 RX6 yX6_unlike cX6_unlike 2 (some .int) 0 := CWV.mk lk_L_89 li_X6_unlike ls_X6_unlike lk_ini6 lc_X6_unlike (by decide +kernel)
set_option maxRecDepth 20000 in
theorem lk_L_92 : Cond.methodLink RL 92 yX7_unlike ∈ WL := List.mem_of_getElem? (i := 1034) (by decide +kernel)
set_option maxRecDepth 20000 in
theorem lc_X7_unlike : Cond.code yX7_unlike cX7_unlike 6 (some .int) ∈ WL := List.mem_of_getElem? (i := 1037) (by decide +kernel)
set_option maxRecDepth 20000 in
theorem li_X7_unlike : Cond.instanceMethod yX7_unlike ∈ WL := List.mem_of_getElem? (i := 1035) (by decide +kernel)
set_option maxRecDepth 20000 in
theorem ls_X7_unlike : Cond.selects RX7 yX7_unlike yX7_unlike ∈ WL := List.mem_of_getElem? (i := 1036) (by decide +kernel)
set_option maxRecDepth 20000 in
theorem cw_L_92 : CWV RL 92 RX7 yX7_unlike cX7_unlike 6 (some .int) 0 := CWV.mk lk_L_92 li_X7_unlike ls_X7_unlike lk_ini7 lc_X7_unlike (by decide +kernel)
set_option maxRecDepth 20000 in
theorem lk_L_93 : Cond.methodLink RL 93 yX6_variableAt ∈ WL := List.mem_of_getElem? (i := 1042) (by decide +kernel)
set_option maxRecDepth 20000 in
theorem lc_X6_variableAt : Cond.code yX6_variableAt cX6_variableAt 3 (some .int) ∈ WL := List.mem_of_getElem? (i := 1045) (by decide +kernel)
set_option maxRecDepth 20000 in
theorem li_X6_variableAt : Cond.instanceMethod yX6_variableAt ∈ WL := List.mem_of_getElem? (i := 1043) (by decide +kernel)
set_option maxRecDepth 20000 in
theorem ls_X6_variableAt : Cond.selects RX6 yX6_variableAt yX6_variableAt ∈ WL := List.mem_of_getElem? (i := 1044) (by decide +kernel)
set_option maxRecDepth 20000 in
theorem cw_L_93 : CWV RL 93 RX6 yX6_variableAt cX6_variableAt 3 (some .int) 2 := CWV.mk lk_L_93 li_X6_variableAt ls_X6_variableAt lk_ini6 lc_X6_variableAt (by decide +kernel)
set_option maxRecDepth 20000 in
theorem lk_L_96 : Cond.methodLink RL 96 yX7_variableAt ∈ WL := List.mem_of_getElem? (i := 1046) (by decide +kernel)
set_option maxRecDepth 20000 in
theorem lc_X7_variableAt : Cond.code yX7_variableAt cX7_variableAt 3 (some .int) ∈ WL := List.mem_of_getElem? (i := 1049) (by decide +kernel)
set_option maxRecDepth 20000 in
theorem li_X7_variableAt : Cond.instanceMethod yX7_variableAt ∈ WL := List.mem_of_getElem? (i := 1047) (by decide +kernel)
set_option maxRecDepth 20000 in
theorem ls_X7_variableAt : Cond.selects RX7 yX7_variableAt yX7_variableAt ∈ WL := List.mem_of_getElem? (i := 1048) (by decide +kernel)
set_option maxRecDepth 20000 in
theorem cw_L_96 : CWV RL 96 RX7 yX7_variableAt cX7_variableAt 3 (some .int) 2 := CWV.mk lk_L_96 li_X7_variableAt ls_X7_variableAt lk_ini7 lc_X7_variableAt (by decide +kernel)
set_option maxRecDepth 20000 in
theorem lk_L_97 : Cond.methodLink RL 97 yX6_back ∈ WL := List.mem_of_getElem? (i := 1050) (by decide +kernel)
set_option maxRecDepth 20000 in
theorem lc_X6_back : Cond.code yX6_back cX6_back 2 (some .int) ∈ WL := List.mem_of_getElem? (i := 1053) (by decide +kernel)
set_option maxRecDepth 20000 in
theorem li_X6_back : Cond.instanceMethod yX6_back ∈ WL := List.mem_of_getElem? (i := 1051) (by decide +kernel)
set_option maxRecDepth 20000 in
theorem ls_X6_back : Cond.selects RX6 yX6_back yX6_back ∈ WL := List.mem_of_getElem? (i := 1052) (by decide +kernel)
set_option maxRecDepth 20000 in
theorem cw_L_97 : CWV RL 97 RX6 yX6_back cX6_back 2 (some .int) 0 := CWV.mk lk_L_97 li_X6_back ls_X6_back lk_ini6 lc_X6_back (by decide +kernel)
set_option maxRecDepth 20000 in
theorem lk_L_100 : Cond.methodLink RL 100 yX7_back ∈ WL := List.mem_of_getElem? (i := 1054) (by decide +kernel)
set_option maxRecDepth 20000 in
theorem lc_X7_back : Cond.code yX7_back cX7_back 1 (some .int) ∈ WL := List.mem_of_getElem? (i := 1057) (by decide +kernel)
set_option maxRecDepth 20000 in
theorem li_X7_back : Cond.instanceMethod yX7_back ∈ WL := List.mem_of_getElem? (i := 1055) (by decide +kernel)
set_option maxRecDepth 20000 in
theorem ls_X7_back : Cond.selects RX7 yX7_back yX7_back ∈ WL := List.mem_of_getElem? (i := 1056) (by decide +kernel)
set_option maxRecDepth 20000 in
theorem cw_L_100 : CWV RL 100 RX7 yX7_back cX7_back 1 (some .int) 0 := CWV.mk lk_L_100 li_X7_back ls_X7_back lk_ini7 lc_X7_back (by decide +kernel)
set_option maxRecDepth 20000 in
theorem lk_L_101 : Cond.methodLink RL 101 yX6_told ∈ WL := List.mem_of_getElem? (i := 1058) (by decide +kernel)
set_option maxRecDepth 20000 in
theorem cw_L_101 : CWV RL 101 RX6 yX6_told cX6_told 2 (some .int) 1 := CWV.mk lk_L_101 li_X6_told ls_X6_told lk_ini6 lc_X6_told (by decide +kernel)
set_option maxRecDepth 20000 in
theorem lk_L_104 : Cond.methodLink RL 104 yX7_told ∈ WL := List.mem_of_getElem? (i := 1062) (by decide +kernel)
set_option maxRecDepth 20000 in
theorem lc_X7_told : Cond.code yX7_told cX7_told 2 (some .int) ∈ WL := List.mem_of_getElem? (i := 1065) (by decide +kernel)
set_option maxRecDepth 20000 in
theorem li_X7_told : Cond.instanceMethod yX7_told ∈ WL := List.mem_of_getElem? (i := 1063) (by decide +kernel)
set_option maxRecDepth 20000 in
theorem ls_X7_told : Cond.selects RX7 yX7_told yX7_told ∈ WL := List.mem_of_getElem? (i := 1064) (by decide +kernel)
set_option maxRecDepth 20000 in
theorem cw_L_104 : CWV RL 104 RX7 yX7_told cX7_told 2 (some .int) 1 := CWV.mk lk_L_104 li_X7_told ls_X7_told lk_ini7 lc_X7_told (by decide +kernel)
set_option maxRecDepth 20000 in
theorem lk_L_105 : Cond.methodLink RL 105 yX6_digest ∈ WL := List.mem_of_getElem? (i := 1070) (by decide +kernel)
set_option maxRecDepth 20000 in
theorem lc_X6_digest : Cond.code yX6_digest cX6_digest 5 (some .long) ∈ WL := List.mem_of_getElem? (i := 1073) (by decide +kernel)
set_option maxRecDepth 20000 in
theorem li_X6_digest : Cond.instanceMethod yX6_digest ∈ WL := List.mem_of_getElem? (i := 1071) (by decide +kernel)
set_option maxRecDepth 20000 in
theorem ls_X6_digest : Cond.selects RX6 yX6_digest yX6_digest ∈ WL := List.mem_of_getElem? (i := 1072) (by decide +kernel)
set_option maxRecDepth 20000 in
theorem cw_L_105 : CWV RL 105 RX6 yX6_digest cX6_digest 5 (some .long) 0 := CWV.mk lk_L_105 li_X6_digest ls_X6_digest lk_ini6 lc_X6_digest (by decide +kernel)
set_option maxRecDepth 20000 in
theorem lk_L_109 : Cond.methodLink RL 109 yX7_digest ∈ WL := List.mem_of_getElem? (i := 1079) (by decide +kernel)
set_option maxRecDepth 20000 in
theorem lc_X7_digest : Cond.code yX7_digest cX7_digest 5 (some .long) ∈ WL := List.mem_of_getElem? (i := 1082) (by decide +kernel)
set_option maxRecDepth 20000 in
theorem li_X7_digest : Cond.instanceMethod yX7_digest ∈ WL := List.mem_of_getElem? (i := 1080) (by decide +kernel)
set_option maxRecDepth 20000 in
theorem ls_X7_digest : Cond.selects RX7 yX7_digest yX7_digest ∈ WL := List.mem_of_getElem? (i := 1081) (by decide +kernel)
set_option maxRecDepth 20000 in
theorem cw_L_109 : CWV RL 109 RX7 yX7_digest cX7_digest 5 (some .long) 0 := CWV.mk lk_L_109 li_X7_digest ls_X7_digest lk_ini7 lc_X7_digest (by decide +kernel)
set_option maxRecDepth 20000 in
theorem lc_X5_init : Cond.code yX5_init cX5_init 1 none ∈ WL := List.mem_of_getElem? (i := 40) (by decide +kernel)
set_option maxRecDepth 20000 in
theorem li_X5_init : Cond.instanceMethod yX5_init ∈ WL := List.mem_of_getElem? (i := 39) (by decide +kernel)
set_option maxRecDepth 20000 in
theorem cw_X6_43 : CWN RX6 43 yX5_init "SnippetStops" cX5_init 1 0 := ⟨gCode lc_X5_init, lk_ini5, li_X5_init, rfl, by decide +kernel⟩
set_option maxRecDepth 20000 in
theorem cw_X1_11 : CWN RX1 11 yX5_init "SnippetStops" cX5_init 1 0 := ⟨gCode lc_X5_init, lk_ini5, li_X5_init, rfl, by decide +kernel⟩
theorem df0 : ∀ j, j < 10 → defaultValue (tyX0 j) = vp_V [.int 0, .int 0, .null, .int 0, .int 0, .int 0, .int 0, .int 0, .int 0, .int 0] j := fun j hj => by rcases (show j = 0 ∨ j = 1 ∨ j = 2 ∨ j = 3 ∨ j = 4 ∨ j = 5 ∨ j = 6 ∨ j = 7 ∨ j = 8 ∨ j = 9 by omega) with rfl | rfl | rfl | rfl | rfl | rfl | rfl | rfl | rfl | rfl <;> rfl
theorem df1 : ∀ j, j < 10 → defaultValue (tyX1 j) = vp_V [.null, .null, .null, .int 0, .int 0, .int 0, .int 0, .null, .null, .int 0] j := fun j hj => by rcases (show j = 0 ∨ j = 1 ∨ j = 2 ∨ j = 3 ∨ j = 4 ∨ j = 5 ∨ j = 6 ∨ j = 7 ∨ j = 8 ∨ j = 9 by omega) with rfl | rfl | rfl | rfl | rfl | rfl | rfl | rfl | rfl | rfl <;> rfl
theorem df2 : ∀ j, j < 3 → defaultValue (tyX2 j) = vp_V [.int 0, .null, .int 0] j := fun j hj => by rcases (show j = 0 ∨ j = 1 ∨ j = 2 by omega) with rfl | rfl | rfl <;> rfl
theorem df3 : ∀ j, j < 8 → defaultValue (tyX3 j) = vp_V [.null, .int 0, .int 0, .null, .null, .null, .null, .null] j := fun j hj => by rcases (show j = 0 ∨ j = 1 ∨ j = 2 ∨ j = 3 ∨ j = 4 ∨ j = 5 ∨ j = 6 ∨ j = 7 by omega) with rfl | rfl | rfl | rfl | rfl | rfl | rfl | rfl <;> rfl
theorem df4 : ∀ j, j < 6 → defaultValue (tyX4 j) = vp_V [.null, .int 0, .null, .null, .int 0, .null] j := fun j hj => by rcases (show j = 0 ∨ j = 1 ∨ j = 2 ∨ j = 3 ∨ j = 4 ∨ j = 5 by omega) with rfl | rfl | rfl | rfl | rfl | rfl <;> rfl
theorem df5 : ∀ j, j < 4 → defaultValue (tyX5 j) = vp_V [.null, .null, .int 0, .null] j := fun j hj => by rcases (show j = 0 ∨ j = 1 ∨ j = 2 ∨ j = 3 by omega) with rfl | rfl | rfl | rfl <;> rfl
theorem df6 : ∀ j, j < 9 → defaultValue (tyX6 j) = vp_V [.null, .null, .null, .int 0, .null, .null, .int 0, .int 0, .int 0] j := fun j hj => by rcases (show j = 0 ∨ j = 1 ∨ j = 2 ∨ j = 3 ∨ j = 4 ∨ j = 5 ∨ j = 6 ∨ j = 7 ∨ j = 8 by omega) with rfl | rfl | rfl | rfl | rfl | rfl | rfl | rfl | rfl <;> rfl
theorem df7 : ∀ j, j < 45 → defaultValue (tyX7 j) = vp_V [.null, .null, .int 0, .int 0, .null, .int 0, .null, .null, .null, .null, .null, .null, .null, .null, .null, .null, .null, .null, .null, .null, .null, .int 0, .null, .int 0, .int 0, .int 0, .int 0, .null, .int 0, .null, .int 0, .int 0, .null, .null, .null, .null, .null, .null, .int 0, .null, .null, .null, .int 0, .null, .int 0] j := fun j hj => by rcases (show j = 0 ∨ j = 1 ∨ j = 2 ∨ j = 3 ∨ j = 4 ∨ j = 5 ∨ j = 6 ∨ j = 7 ∨ j = 8 ∨ j = 9 ∨ j = 10 ∨ j = 11 ∨ j = 12 ∨ j = 13 ∨ j = 14 ∨ j = 15 ∨ j = 16 ∨ j = 17 ∨ j = 18 ∨ j = 19 ∨ j = 20 ∨ j = 21 ∨ j = 22 ∨ j = 23 ∨ j = 24 ∨ j = 25 ∨ j = 26 ∨ j = 27 ∨ j = 28 ∨ j = 29 ∨ j = 30 ∨ j = 31 ∨ j = 32 ∨ j = 33 ∨ j = 34 ∨ j = 35 ∨ j = 36 ∨ j = 37 ∨ j = 38 ∨ j = 39 ∨ j = 40 ∨ j = 41 ∨ j = 42 ∨ j = 43 ∨ j = 44 by omega) with rfl | rfl | rfl | rfl | rfl | rfl | rfl | rfl | rfl | rfl | rfl | rfl | rfl | rfl | rfl | rfl | rfl | rfl | rfl | rfl | rfl | rfl | rfl | rfl | rfl | rfl | rfl | rfl | rfl | rfl | rfl | rfl | rfl | rfl | rfl | rfl | rfl | rfl | rfl | rfl | rfl | rfl | rfl | rfl | rfl <;> rfl
