set_option maxRecDepth 20000 in
theorem cw_X2_22 : CWV RX2 22 RX2 yX2_widen cX2_widen 5 none 1 := CWV.mk lk_X2_22 li_X2_widen ls_X2_widen lk_ini2 lc_X2_widen (by decide +kernel)
set_option maxRecDepth 20000 in
theorem cw_X2_26 : CWV RX2 26 RX2 yX2_put cX2_put 3 none 2 := CWV.mk lk_X2_26 li_X2_put ls_X2_put lk_ini2 lc_X2_put (by decide +kernel)
set_option maxRecDepth 20000 in
theorem cw_X2_42 : CWV RX2 42 RX2 yX2_addPart cX2_addPart 5 none 3 := CWV.mk lk_X2_42 li_X2_addPart ls_X2_addPart lk_ini2 lc_X2_addPart (by decide +kernel)
set_option maxRecDepth 20000 in
theorem cw_X2_46 : CWV RX2 46 RX2 yX2_add cX2_add 2 none 1 := CWV.mk lk_X2_46 li_X2_add ls_X2_add lk_ini2 lc_X2_add (by decide +kernel)
set_option maxRecDepth 20000 in
theorem cw_X2_49 : CWV RX2 49 RX2 yX2_get cX2_get 2 (some .int) 1 := CWV.mk lk_X2_49 li_X2_get ls_X2_get lk_ini2 lc_X2_get (by decide +kernel)
set_option maxRecDepth 20000 in
theorem cw_X5_11 : CWI RX5 11 yX2_init cX2_init 2 1 := ⟨gCode lc_X2_init, lk_ini2, lk_X5_11, li_X2_init, rfl, by decide +kernel⟩
set_option maxRecDepth 20000 in
theorem cw_X3_44 : CWI RX3 44 yX2_init cX2_init 2 1 := ⟨gCode lc_X2_init, lk_ini2, lk_X3_44, li_X2_init, rfl, by decide +kernel⟩
set_option maxRecDepth 20000 in
theorem cw_X3_51 : CWV RX3 51 RX3 yX3_leastAbove cX3_leastAbove 3 (some .int) 1 := CWV.mk lk_X3_51 li_X3_leastAbove ls_X3_leastAbove lk_ini3 lc_X3_leastAbove (by decide +kernel)
set_option maxRecDepth 20000 in
theorem cw_X3_55 : CWV RX3 55 RX3 yX3_comeTo cX3_comeTo 2 none 1 := CWV.mk lk_X3_55 li_X3_comeTo ls_X3_comeTo lk_ini3 lc_X3_comeTo (by decide +kernel)
set_option maxRecDepth 20000 in
theorem cw_X3_89 : CWV RX3 89 RX3 yX3_occurrencesThere cX3_occurrencesThere 5 (some .int) 1 := CWV.mk lk_X3_89 li_X3_occurrencesThere ls_X3_occurrencesThere lk_ini3 lc_X3_occurrencesThere (by decide +kernel)
set_option maxRecDepth 20000 in
theorem cw_X3_78 : CWV RX3 78 RX5 yX5_size cX5_size 1 (some .int) 0 := CWV.mk lk_X3_78 li_X5_size ls_X5_size lk_ini5 lc_X5_size (by decide +kernel)
set_option maxRecDepth 20000 in
theorem cw_X3_139 : CWV RX3 139 RX3 yX3_putItems cX3_putItems 11 none 5 := CWV.mk lk_X3_139 li_X3_putItems ls_X3_putItems lk_ini3 lc_X3_putItems (by decide +kernel)
set_option maxRecDepth 20000 in
theorem cw_X3_104 : CWV RX3 104 RX2 yX2_size cX2_size 1 (some .int) 0 := CWV.mk lk_X3_104 li_X2_size ls_X2_size lk_ini2 lc_X2_size (by decide +kernel)
set_option maxRecDepth 20000 in
theorem cw_X3_153 : CWV RX3 153 RX2 yX2_get cX2_get 2 (some .int) 1 := CWV.mk lk_X3_153 li_X2_get ls_X2_get lk_ini2 lc_X2_get (by decide +kernel)
set_option maxRecDepth 20000 in
theorem cw_X3_101 : CWV RX3 101 RX2 yX2_add cX2_add 2 none 1 := CWV.mk lk_X3_101 li_X2_add ls_X2_add lk_ini2 lc_X2_add (by decide +kernel)
set_option maxRecDepth 20000 in
theorem cw_X4_11 : CWI RX4 11 yX2_init cX2_init 2 1 := ⟨gCode lc_X2_init, lk_ini2, lk_X4_11, li_X2_init, rfl, by decide +kernel⟩
set_option maxRecDepth 20000 in
theorem cw_X4_40 : CWI RX4 40 yX3_init cX3_init 3 1 := ⟨gCode lc_X3_init, lk_ini3, lk_X4_40, li_X3_init, rfl, by decide +kernel⟩
set_option maxRecDepth 20000 in
theorem cw_X4_43 : CWV RX4 43 RX2 yX2_copyOf cX2_copyOf 2 none 1 := CWV.mk lk_X4_43 li_X2_copyOf ls_X2_copyOf lk_ini2 lc_X2_copyOf (by decide +kernel)
set_option maxRecDepth 20000 in
theorem cw_X4_50 : CWV RX4 50 RX3 yX3_begin cX3_begin 3 none 1 := CWV.mk lk_X4_50 li_X3_begin ls_X3_begin lk_ini3 lc_X3_begin (by decide +kernel)
set_option maxRecDepth 20000 in
theorem cw_X4_56 : CWV RX4 56 RX4 yX4_uppermost cX4_uppermost 1 (some (.object "SnippetStops$Session")) 0 := CWV.mk lk_X4_56 li_X4_uppermost ls_X4_uppermost lk_ini4 lc_X4_uppermost (by decide +kernel)
set_option maxRecDepth 20000 in
theorem cw_X4_63 : CWV RX4 63 RX4 yX4_settle cX4_settle 3 (some .boolean) 0 := CWV.mk lk_X4_63 li_X4_settle ls_X4_settle lk_ini4 lc_X4_settle (by decide +kernel)
set_option maxRecDepth 20000 in
theorem cw_X4_71 : CWV RX4 71 RX3 yX3_findThere cX3_findThere 6 (some (.object "SnippetStops$Occurrence")) 2 := CWV.mk lk_X4_71 li_X3_findThere ls_X3_findThere lk_ini3 lc_X3_findThere (by decide +kernel)
set_option maxRecDepth 20000 in
theorem cw_X4_75 : CWV RX4 75 RX2 yX2_size cX2_size 1 (some .int) 0 := CWV.mk lk_X4_75 li_X2_size ls_X2_size lk_ini2 lc_X2_size (by decide +kernel)
set_option maxRecDepth 20000 in
theorem cw_X4_83 : CWV RX4 83 RX2 yX2_insert cX2_insert 4 none 2 := CWV.mk lk_X4_83 li_X2_insert ls_X2_insert lk_ini2 lc_X2_insert (by decide +kernel)
set_option maxRecDepth 20000 in
theorem cw_X4_99 : CWV RX4 99 RX2 yX2_empty cX2_empty 1 none 0 := CWV.mk lk_X4_99 li_X2_empty ls_X2_empty lk_ini2 lc_X2_empty (by decide +kernel)
set_option maxRecDepth 20000 in
theorem cw_X4_102 : CWV RX4 102 RX3 yX3_layOut cX3_layOut 2 none 1 := CWV.mk lk_X4_102 li_X3_layOut ls_X3_layOut lk_ini3 lc_X3_layOut (by decide +kernel)
set_option maxRecDepth 20000 in
theorem cw_X4_112 : CWV RX4 112 RX2 yX2_addPart cX2_addPart 5 none 3 := CWV.mk lk_X4_112 li_X2_addPart ls_X2_addPart lk_ini2 lc_X2_addPart (by decide +kernel)
set_option maxRecDepth 20000 in
theorem cw_X1_49 : CWV RX1 49 RX2 yX2_size cX2_size 1 (some .int) 0 := CWV.mk lk_X1_49 li_X2_size ls_X2_size lk_ini2 lc_X2_size (by decide +kernel)
set_option maxRecDepth 20000 in
theorem cw_X1_55 : CWV RX1 55 RX2 yX2_get cX2_get 2 (some .int) 1 := CWV.mk lk_X1_55 li_X2_get ls_X2_get lk_ini2 lc_X2_get (by decide +kernel)
set_option maxRecDepth 20000 in
theorem cw_X1_63 : CWV RX1 63 RX5 yX5_settleMasters cX5_settleMasters 3 none 0 := CWV.mk lk_X1_63 li_X5_settleMasters ls_X5_settleMasters lk_ini5 lc_X5_settleMasters (by decide +kernel)
set_option maxRecDepth 20000 in
theorem cw_X6_11 : CWI RX6 11 yX2_init cX2_init 2 1 := ⟨gCode lc_X2_init, lk_ini2, lk_X6_11, li_X2_init, rfl, by decide +kernel⟩
set_option maxRecDepth 20000 in
theorem cw_X6_44 : CWI RX6 44 yX4_init cX4_init 3 1 := ⟨gCode lc_X4_init, lk_ini4, lk_X6_44, li_X4_init, rfl, by decide +kernel⟩
set_option maxRecDepth 20000 in
theorem cw_X6_54 : CWV RX6 54 RX6 yX6_refuse cX6_refuse 2 (some .int) 1 := CWV.mk lk_X6_54 li_X6_refuse ls_X6_refuse lk_ini6 lc_X6_refuse (by decide +kernel)
set_option maxRecDepth 20000 in
theorem cw_X6_58 : CWV RX6 58 RX2 yX2_size cX2_size 1 (some .int) 0 := CWV.mk lk_X6_58 li_X2_size ls_X2_size lk_ini2 lc_X2_size (by decide +kernel)
set_option maxRecDepth 20000 in
theorem cw_X6_62 : CWV RX6 62 RX2 yX2_add cX2_add 2 none 1 := CWV.mk lk_X6_62 li_X2_add ls_X2_add lk_ini2 lc_X2_add (by decide +kernel)
set_option maxRecDepth 20000 in
theorem cw_X6_65 : CWV RX6 65 RX2 yX2_empty cX2_empty 1 none 0 := CWV.mk lk_X6_65 li_X2_empty ls_X2_empty lk_ini2 lc_X2_empty (by decide +kernel)
set_option maxRecDepth 20000 in
theorem cw_X6_68 : CWS RX6 68 yX6_isVariable cX6_isVariable 1 (some .boolean) 1 := CWS.mk lk_X6_68 lt_X6_isVariable lk_ini6 lc_X6_isVariable (by decide +kernel)
set_option maxRecDepth 20000 in
theorem cw_X6_72 : CWS RX6 72 yX6_canBeVariable cX6_canBeVariable 2 (some .boolean) 1 := CWS.mk lk_X6_72 lt_X6_canBeVariable lk_ini6 lc_X6_canBeVariable (by decide +kernel)
set_option maxRecDepth 20000 in
theorem cw_X6_76 : CWV RX6 76 RX4 yX4_copyOf cX4_copyOf 3 none 1 := CWV.mk lk_X6_76 li_X4_copyOf ls_X4_copyOf lk_ini4 lc_X4_copyOf (by decide +kernel)
set_option maxRecDepth 20000 in
theorem cw_X6_84 : CWV RX6 84 RX2 yX2_copyOf cX2_copyOf 2 none 1 := CWV.mk lk_X6_84 li_X2_copyOf ls_X2_copyOf lk_ini2 lc_X2_copyOf (by decide +kernel)
set_option maxRecDepth 20000 in
theorem cw_X6_87 : CWV RX6 87 RX6 yX6_lands cX6_lands 3 (some .boolean) 0 := CWV.mk lk_X6_87 li_X6_lands ls_X6_lands lk_ini6 lc_X6_lands (by decide +kernel)
set_option maxRecDepth 20000 in
theorem cw_X6_93 : CWI RX6 93 yX1_init cX1_init 3 2 := ⟨gCode lc_X1_init, lk_ini1, lk_X6_93, li_X1_init, rfl, by decide +kernel⟩
set_option maxRecDepth 20000 in
theorem cw_X6_96 : CWV RX6 96 RX1 yX1_read cX1_read 2 (some .int) 0 := CWV.mk lk_X6_96 li_X1_read ls_X1_read lk_ini1 lc_X1_read (by decide +kernel)
set_option maxRecDepth 20000 in
theorem cw_X6_106 : CWV RX6 106 RX4 yX4_openSession cX4_openSession 3 (some .int) 1 := CWV.mk lk_X6_106 li_X4_openSession ls_X4_openSession lk_ini4 lc_X4_openSession (by decide +kernel)
set_option maxRecDepth 20000 in
theorem cw_X6_110 : CWV RX6 110 RX4 yX4_settle cX4_settle 3 (some .boolean) 0 := CWV.mk lk_X6_110 li_X4_settle ls_X4_settle lk_ini4 lc_X4_settle (by decide +kernel)
set_option maxRecDepth 20000 in
theorem cw_X6_113 : CWV RX6 113 RX4 yX4_endUppermost cX4_endUppermost 5 none 0 := CWV.mk lk_X6_113 li_X4_endUppermost ls_X4_endUppermost lk_ini4 lc_X4_endUppermost (by decide +kernel)
set_option maxRecDepth 20000 in
theorem cw_X6_116 : CWS RX6 116 yX6_isShown cX6_isShown 1 (some .boolean) 1 := CWS.mk lk_X6_116 lt_X6_isShown lk_ini6 lc_X6_isShown (by decide +kernel)
set_option maxRecDepth 20000 in
theorem cw_X6_119 : CWV RX6 119 RX4 yX4_uppermost cX4_uppermost 1 (some (.object "SnippetStops$Session")) 0 := CWV.mk lk_X6_119 li_X4_uppermost ls_X4_uppermost lk_ini4 lc_X4_uppermost (by decide +kernel)
set_option maxRecDepth 20000 in
theorem cw_X6_123 : CWV RX6 123 RX4 yX4_insertAtCaret cX4_insertAtCaret 2 none 1 := CWV.mk lk_X6_123 li_X4_insertAtCaret ls_X4_insertAtCaret lk_ini4 lc_X4_insertAtCaret (by decide +kernel)
set_option maxRecDepth 20000 in
theorem cw_X6_151 : CWV RX6 151 RX3 yX3_leastAbove cX3_leastAbove 3 (some .int) 1 := CWV.mk lk_X6_151 li_X3_leastAbove ls_X3_leastAbove lk_ini3 lc_X3_leastAbove (by decide +kernel)
set_option maxRecDepth 20000 in
theorem cw_X6_166 : CWV RX6 166 RX2 yX2_get cX2_get 2 (some .int) 1 := CWV.mk lk_X6_166 li_X2_get ls_X2_get lk_ini2 lc_X2_get (by decide +kernel)
set_option maxRecDepth 20000 in
theorem cw_X6_176 : CWS RX6 176 yX6_isStop cX6_isStop 1 (some .boolean) 1 := CWS.mk lk_X6_176 lt_X6_isStop lk_ini6 lc_X6_isStop (by decide +kernel)
set_option maxRecDepth 20000 in
theorem cw_X6_179 : CWV RX6 179 RX3 yX3_occurrencesThere cX3_occurrencesThere 5 (some .int) 1 := CWV.mk lk_X6_179 li_X3_occurrencesThere ls_X3_occurrencesThere lk_ini3 lc_X3_occurrencesThere (by decide +kernel)
set_option maxRecDepth 20000 in
theorem cw_X6_190 : CWV RX6 190 RX3 yX3_findThere cX3_findThere 6 (some (.object "SnippetStops$Occurrence")) 2 := CWV.mk lk_X6_190 li_X3_findThere ls_X3_findThere lk_ini3 lc_X3_findThere (by decide +kernel)
set_option maxRecDepth 20000 in
theorem cw_X6_220 : CWV RX6 220 RX6 yX6_told cX6_told 2 (some .int) 1 := CWV.mk lk_X6_220 li_X6_told ls_X6_told lk_ini6 lc_X6_told (by decide +kernel)
set_option maxRecDepth 20000 in
theorem cw_X6_223 : CWV RX6 223 RX6 yX6_count cX6_count 3 (some .int) 1 := CWV.mk lk_X6_223 li_X6_count ls_X6_count lk_ini6 lc_X6_count (by decide +kernel)
set_option maxRecDepth 20000 in
theorem cw_X6_226 : CWV RX6 226 RX6 yX6_stop cX6_stop 4 (some .int) 2 := CWV.mk lk_X6_226 li_X6_stop ls_X6_stop lk_ini6 lc_X6_stop (by decide +kernel)
set_option maxRecDepth 20000 in
theorem cw_X7_232 : CWV RX7 232 RX7 yX7_closes cX7_closes 5 none 4 := CWV.mk lk_X7_232 li_X7_closes ls_X7_closes lk_ini7 lc_X7_closes (by decide +kernel)
set_option maxRecDepth 20000 in
theorem cw_X7_228 : CWV RX7 228 RX7 yX7_opens cX7_opens 6 none 5 := CWV.mk lk_X7_228 li_X7_opens ls_X7_opens lk_ini7 lc_X7_opens (by decide +kernel)
set_option maxRecDepth 20000 in
theorem cw_X7_242 : CWV RX7 242 RX7 yX7_step cX7_step 4 none 1 := CWV.mk lk_X7_242 li_X7_step ls_X7_step lk_ini7 lc_X7_step (by decide +kernel)
set_option maxRecDepth 20000 in
theorem cw_X7_260 : CWV RX7 260 RX7 yX7_showsAll cX7_showsAll 2 none 1 := CWV.mk lk_X7_260 li_X7_showsAll ls_X7_showsAll lk_ini7 lc_X7_showsAll (by decide +kernel)
set_option maxRecDepth 20000 in
theorem cw_X7_272 : CWV RX7 272 RX7 yX7_put cX7_put 2 none 1 := CWV.mk lk_X7_272 li_X7_put ls_X7_put lk_ini7 lc_X7_put (by decide +kernel)
set_option maxRecDepth 20000 in
theorem cw_X7_297 : CWV RX7 297 RX7 yX7_copiesState cX7_copiesState 5 none 2 := CWV.mk lk_X7_297 li_X7_copiesState ls_X7_copiesState lk_ini7 lc_X7_copiesState (by decide +kernel)
set_option maxRecDepth 20000 in
theorem cw_X7_306 : CWV RX7 306 RX7 yX7_documentBytes cX7_documentBytes 1 (some .int) 0 := CWV.mk lk_X7_306 li_X7_documentBytes ls_X7_documentBytes lk_ini7 lc_X7_documentBytes (by decide +kernel)
set_option maxRecDepth 20000 in
theorem cw_X7_322 : CWV RX7 322 RX7 yX7_first cX7_first 5 (some .int) 2 := CWV.mk lk_X7_322 li_X7_first ls_X7_first lk_ini7 lc_X7_first (by decide +kernel)
set_option maxRecDepth 20000 in
theorem cw_X7_325 : CWV RX7 325 RX7 yX7_comesIn cX7_comesIn 4 none 2 := CWV.mk lk_X7_325 li_X7_comesIn ls_X7_comesIn lk_ini7 lc_X7_comesIn (by decide +kernel)
set_option maxRecDepth 20000 in
theorem cw_X7_138 : CWS RX7 138 yX7_in cX7_in 3 (some .boolean) 3 := CWS.mk lk_X7_138 lt_X7_in lk_ini7 lc_X7_in (by decide +kernel)
set_option maxRecDepth 20000 in
theorem cw_X7_328 : CWV RX7 328 RX7 yX7_isStopThere cX7_isStopThere 5 (some .boolean) 2 := CWV.mk lk_X7_328 li_X7_isStopThere ls_X7_isStopThere lk_ini7 lc_X7_isStopThere (by decide +kernel)
set_option maxRecDepth 20000 in
theorem cw_X7_331 : CWV RX7 331 RX7 yX7_bad cX7_bad 1 (some .int) 0 := CWV.mk lk_X7_331 li_X7_bad ls_X7_bad lk_ini7 lc_X7_bad (by decide +kernel)
set_option maxRecDepth 20000 in
theorem cw_X7_334 : CWV RX7 334 RX7 yX7_writes cX7_writes 3 none 1 := CWV.mk lk_X7_334 li_X7_writes ls_X7_writes lk_ini7 lc_X7_writes (by decide +kernel)
set_option maxRecDepth 20000 in
theorem cw_X7_316 : CWV RX7 316 RX7 yX7_leavesState cX7_leavesState 2 none 0 := CWV.mk lk_X7_316 li_X7_leavesState ls_X7_leavesState lk_ini7 lc_X7_leavesState (by decide +kernel)
set_option maxRecDepth 20000 in
theorem cw_X7_337 : CWV RX7 337 RX7 yX7_settles cX7_settles 6 none 1 := CWV.mk lk_X7_337 li_X7_settles ls_X7_settles lk_ini7 lc_X7_settles (by decide +kernel)
set_option maxRecDepth 20000 in
theorem cw_X7_340 : CWV RX7 340 RX7 yX7_nextStop cX7_nextStop 5 (some .int) 3 := CWV.mk lk_X7_340 li_X7_nextStop ls_X7_nextStop lk_ini7 lc_X7_nextStop (by decide +kernel)
set_option maxRecDepth 20000 in
theorem cw_X7_343 : CWV RX7 343 RX7 yX7_passesDown cX7_passesDown 2 none 0 := CWV.mk lk_X7_343 li_X7_passesDown ls_X7_passesDown lk_ini7 lc_X7_passesDown (by decide +kernel)
set_option maxRecDepth 20000 in
theorem cw_X7_346 : CWV RX7 346 RX7 yX7_reads cX7_reads 4 (some .boolean) 1 := CWV.mk lk_X7_346 li_X7_reads ls_X7_reads lk_ini7 lc_X7_reads (by decide +kernel)
set_option maxRecDepth 20000 in
theorem cw_X7_300 : CWV RX7 300 RX7 yX7_no cX7_no 1 (some .int) 0 := CWV.mk lk_X7_300 li_X7_no ls_X7_no lk_ini7 lc_X7_no (by decide +kernel)
set_option maxRecDepth 20000 in
theorem cw_X7_349 : CWV RX7 349 RX7 yX7_begun cX7_begun 3 none 1 := CWV.mk lk_X7_349 li_X7_begun ls_X7_begun lk_ini7 lc_X7_begun (by decide +kernel)
set_option maxRecDepth 20000 in
theorem cw_X7_309 : CWV RX7 309 RX7 yX7_isTooLong cX7_isTooLong 2 (some .boolean) 0 := CWV.mk lk_X7_309 li_X7_isTooLong ls_X7_isTooLong lk_ini7 lc_X7_isTooLong (by decide +kernel)
set_option maxRecDepth 20000 in
theorem cw_X7_352 : CWV RX7 352 RX7 yX7_finishes cX7_finishes 4 none 0 := CWV.mk lk_X7_352 li_X7_finishes ls_X7_finishes lk_ini7 lc_X7_finishes (by decide +kernel)
set_option maxRecDepth 20000 in
theorem cw_X7_382 : CWV RX7 382 RX7 yX7_countOf cX7_countOf 3 (some .int) 1 := CWV.mk lk_X7_382 li_X7_countOf ls_X7_countOf lk_ini7 lc_X7_countOf (by decide +kernel)
set_option maxRecDepth 20000 in
theorem cw_X7_403 : CWV RX7 403 RX7 yX7_toldOf cX7_toldOf 2 (some .int) 1 := CWV.mk lk_X7_403 li_X7_toldOf ls_X7_toldOf lk_ini7 lc_X7_toldOf (by decide +kernel)
set_option maxRecDepth 20000 in
theorem cw_L_9 : CWI RL 9 yX6_init cX6_init 3 0 := ⟨gCode lc_X6_init, lk_ini6, lk_L_9, li_X6_init, rfl, by decide +kernel⟩
set_option maxRecDepth 20000 in
theorem cw_L_12 : CWI RL 12 yX7_init cX7_init 1 0 := ⟨gCode lc_X7_init, lk_ini7, lk_L_12, li_X7_init, rfl, by decide +kernel⟩
set_option maxRecDepth 20000 in
theorem cw_L_13 : CWV RL 13 RX6 yX6_type cX6_type 2 (some .int) 1 := CWV.mk lk_L_13 li_X6_type ls_X6_type lk_ini6 lc_X6_type (by decide +kernel)
set_option maxRecDepth 20000 in
theorem cw_L_17 : CWV RL 17 RX7 yX7_type cX7_type 2 (some .int) 1 := CWV.mk lk_L_17 li_X7_type ls_X7_type lk_ini7 lc_X7_type (by decide +kernel)
set_option maxRecDepth 20000 in
theorem cw_L_18 : CWV RL 18 RX6 yX6_clear cX6_clear 2 (some .int) 0 := CWV.mk lk_L_18 li_X6_clear ls_X6_clear lk_ini6 lc_X6_clear (by decide +kernel)
set_option maxRecDepth 20000 in
theorem cw_L_22 : CWV RL 22 RX7 yX7_clear cX7_clear 2 (some .int) 0 := CWV.mk lk_L_22 li_X7_clear ls_X7_clear lk_ini7 lc_X7_clear (by decide +kernel)
set_option maxRecDepth 20000 in
theorem cw_L_23 : CWV RL 23 RX6 yX6_variable cX6_variable 2 (some .int) 1 := CWV.mk lk_L_23 li_X6_variable ls_X6_variable lk_ini6 lc_X6_variable (by decide +kernel)
set_option maxRecDepth 20000 in
theorem cw_L_26 : CWV RL 26 RX7 yX7_variable cX7_variable 4 (some .int) 1 := CWV.mk lk_L_26 li_X7_variable ls_X7_variable lk_ini7 lc_X7_variable (by decide +kernel)
set_option maxRecDepth 20000 in
theorem cw_L_27 : CWV RL 27 RX6 yX6_begins cX6_begins 4 (some .int) 0 := CWV.mk lk_L_27 li_X6_begins ls_X6_begins lk_ini6 lc_X6_begins (by decide +kernel)
set_option maxRecDepth 20000 in
theorem cw_L_30 : CWV RL 30 RX7 yX7_begins cX7_begins 3 (some .int) 0 := CWV.mk lk_L_30 li_X7_begins ls_X7_begins lk_ini7 lc_X7_begins (by decide +kernel)
set_option maxRecDepth 20000 in
theorem cw_L_31 : CWV RL 31 RX6 yX6_key cX6_key 3 (some .int) 1 := CWV.mk lk_L_31 li_X6_key ls_X6_key lk_ini6 lc_X6_key (by decide +kernel)
set_option maxRecDepth 20000 in
theorem cw_L_34 : CWV RL 34 RX7 yX7_key cX7_key 2 (some .int) 1 := CWV.mk lk_L_34 li_X7_key ls_X7_key lk_ini7 lc_X7_key (by decide +kernel)
set_option maxRecDepth 20000 in
theorem cw_L_35 : CWV RL 35 RX6 yX6_rubs cX6_rubs 2 (some .int) 0 := CWV.mk lk_L_35 li_X6_rubs ls_X6_rubs lk_ini6 lc_X6_rubs (by decide +kernel)
set_option maxRecDepth 20000 in
theorem cw_L_38 : CWV RL 38 RX7 yX7_rubs cX7_rubs 1 (some .int) 0 := CWV.mk lk_L_38 li_X7_rubs ls_X7_rubs lk_ini7 lc_X7_rubs (by decide +kernel)
set_option maxRecDepth 20000 in
theorem cw_L_39 : CWV RL 39 RX6 yX6_nexts cX6_nexts 3 (some .int) 0 := CWV.mk lk_L_39 li_X6_nexts ls_X6_nexts lk_ini6 lc_X6_nexts (by decide +kernel)
set_option maxRecDepth 20000 in
theorem cw_L_42 : CWV RL 42 RX7 yX7_nexts cX7_nexts 2 (some .int) 0 := CWV.mk lk_L_42 li_X7_nexts ls_X7_nexts lk_ini7 lc_X7_nexts (by decide +kernel)
set_option maxRecDepth 20000 in
theorem cw_L_43 : CWV RL 43 RX6 yX6_prevs cX6_prevs 3 (some .int) 0 := CWV.mk lk_L_43 li_X6_prevs ls_X6_prevs lk_ini6 lc_X6_prevs (by decide +kernel)
set_option maxRecDepth 20000 in
theorem cw_L_46 : CWV RL 46 RX7 yX7_prevs cX7_prevs 2 (some .int) 0 := CWV.mk lk_L_46 li_X7_prevs ls_X7_prevs lk_ini7 lc_X7_prevs (by decide +kernel)
set_option maxRecDepth 20000 in
theorem cw_L_47 : CWV RL 47 RX6 yX6_picks cX6_picks 3 (some .int) 1 := CWV.mk lk_L_47 li_X6_picks ls_X6_picks lk_ini6 lc_X6_picks (by decide +kernel)
set_option maxRecDepth 20000 in
theorem cw_L_50 : CWV RL 50 RX7 yX7_picks cX7_picks 5 (some .int) 1 := CWV.mk lk_L_50 li_X7_picks ls_X7_picks lk_ini7 lc_X7_picks (by decide +kernel)
set_option maxRecDepth 20000 in
theorem cw_L_51 : CWV RL 51 RX6 yX6_ends cX6_ends 1 (some .int) 0 := CWV.mk lk_L_51 li_X6_ends ls_X6_ends lk_ini6 lc_X6_ends (by decide +kernel)
set_option maxRecDepth 20000 in
theorem cw_L_54 : CWV RL 54 RX7 yX7_ends cX7_ends 1 (some .int) 0 := CWV.mk lk_L_54 li_X7_ends ls_X7_ends lk_ini7 lc_X7_ends (by decide +kernel)
set_option maxRecDepth 20000 in
theorem cw_L_55 : CWV RL 55 RX6 yX6_caret cX6_caret 3 (some .int) 1 := CWV.mk lk_L_55 li_X6_caret ls_X6_caret lk_ini6 lc_X6_caret (by decide +kernel)
set_option maxRecDepth 20000 in
theorem cw_L_58 : CWV RL 58 RX7 yX7_caret cX7_caret 3 (some .int) 1 := CWV.mk lk_L_58 li_X7_caret ls_X7_caret lk_ini7 lc_X7_caret (by decide +kernel)
set_option maxRecDepth 20000 in
theorem cw_L_59 : CWV RL 59 RX6 yX6_cuts cX6_cuts 4 (some .int) 2 := CWV.mk lk_L_59 li_X6_cuts ls_X6_cuts lk_ini6 lc_X6_cuts (by decide +kernel)
set_option maxRecDepth 20000 in
theorem cw_L_63 : CWV RL 63 RX7 yX7_cuts cX7_cuts 5 (some .int) 2 := CWV.mk lk_L_63 li_X7_cuts ls_X7_cuts lk_ini7 lc_X7_cuts (by decide +kernel)
set_option maxRecDepth 20000 in
theorem cw_L_64 : CWV RL 64 RX6 yX6_at cX6_at 2 (some .int) 1 := CWV.mk lk_L_64 li_X6_at ls_X6_at lk_ini6 lc_X6_at (by decide +kernel)
set_option maxRecDepth 20000 in
theorem cw_L_67 : CWV RL 67 RX7 yX7_at cX7_at 2 (some .int) 1 := CWV.mk lk_L_67 li_X7_at ls_X7_at lk_ini7 lc_X7_at (by decide +kernel)
set_option maxRecDepth 20000 in
theorem cw_L_68 : CWV RL 68 RX6 yX6_count cX6_count 3 (some .int) 1 := CWV.mk lk_L_68 li_X6_count ls_X6_count lk_ini6 lc_X6_count (by decide +kernel)
set_option maxRecDepth 20000 in
theorem cw_L_71 : CWV RL 71 RX7 yX7_count cX7_count 2 (some .int) 1 := CWV.mk lk_L_71 li_X7_count ls_X7_count lk_ini7 lc_X7_count (by decide +kernel)
set_option maxRecDepth 20000 in
theorem cw_L_72 : CWV RL 72 RX6 yX6_stop cX6_stop 4 (some .int) 2 := CWV.mk lk_L_72 li_X6_stop ls_X6_stop lk_ini6 lc_X6_stop (by decide +kernel)
set_option maxRecDepth 20000 in
theorem cw_L_75 : CWV RL 75 RX7 yX7_stop cX7_stop 3 (some .int) 2 := CWV.mk lk_L_75 li_X7_stop ls_X7_stop lk_ini7 lc_X7_stop (by decide +kernel)
set_option maxRecDepth 20000 in
theorem cw_L_76 : CWV RL 76 RX6 yX6_held cX6_held 4 (some .int) 2 := CWV.mk lk_L_76 li_X6_held ls_X6_held lk_ini6 lc_X6_held (by decide +kernel)
set_option maxRecDepth 20000 in
theorem cw_L_79 : CWV RL 79 RX7 yX7_held cX7_held 3 (some .int) 2 := CWV.mk lk_L_79 li_X7_held ls_X7_held lk_ini7 lc_X7_held (by decide +kernel)
set_option maxRecDepth 20000 in
theorem cw_L_80 : CWV RL 80 RX6 yX6_choice cX6_choice 5 (some .int) 3 := CWV.mk lk_L_80 li_X6_choice ls_X6_choice lk_ini6 lc_X6_choice (by decide +kernel)
set_option maxRecDepth 20000 in
theorem cw_L_84 : CWV RL 84 RX7 yX7_choice cX7_choice 6 (some .int) 3 := CWV.mk lk_L_84 li_X7_choice ls_X7_choice lk_ini7 lc_X7_choice (by decide +kernel)
set_option maxRecDepth 20000 in
theorem cw_L_85 : CWV RL 85 RX6 yX6_occurrence cX6_occurrence 6 (some .int) 3 := CWV.mk lk_L_85 li_X6_occurrence ls_X6_occurrence lk_ini6 lc_X6_occurrence (by decide +kernel)
set_option maxRecDepth 20000 in
theorem cw_L_88 : CWV RL 88 RX7 yX7_occurrence cX7_occurrence 7 (some .int) 3 := CWV.mk lk_L_88 li_X7_occurrence ls_X7_occurrence lk_ini7 lc_X7_occurrence (by decide +kernel)
set_option maxRecDepth 20000 in
theorem cw_L_89 : CWV RL 89 RX6 yX6_unlike cX6_unlike 2 (some .int) 0 := CWV.mk lk_L_89 li_X6_unlike ls_X6_unlike lk_ini6 lc_X6_unlike (by decide +kernel)
set_option maxRecDepth 20000 in
theorem cw_L_92 : CWV RL 92 RX7 yX7_unlike cX7_unlike 6 (some .int) 0 := CWV.mk lk_L_92 li_X7_unlike ls_X7_unlike lk_ini7 lc_X7_unlike (by decide +kernel)
set_option maxRecDepth 20000 in
theorem cw_L_93 : CWV RL 93 RX6 yX6_variableAt cX6_variableAt 3 (some .int) 2 := CWV.mk lk_L_93 li_X6_variableAt ls_X6_variableAt lk_ini6 lc_X6_variableAt (by decide +kernel)
set_option maxRecDepth 20000 in
theorem cw_L_96 : CWV RL 96 RX7 yX7_variableAt cX7_variableAt 3 (some .int) 2 := CWV.mk lk_L_96 li_X7_variableAt ls_X7_variableAt lk_ini7 lc_X7_variableAt (by decide +kernel)
set_option maxRecDepth 20000 in
theorem cw_L_97 : CWV RL 97 RX6 yX6_back cX6_back 2 (some .int) 0 := CWV.mk lk_L_97 li_X6_back ls_X6_back lk_ini6 lc_X6_back (by decide +kernel)
set_option maxRecDepth 20000 in
theorem cw_L_100 : CWV RL 100 RX7 yX7_back cX7_back 1 (some .int) 0 := CWV.mk lk_L_100 li_X7_back ls_X7_back lk_ini7 lc_X7_back (by decide +kernel)
set_option maxRecDepth 20000 in
theorem cw_L_101 : CWV RL 101 RX6 yX6_told cX6_told 2 (some .int) 1 := CWV.mk lk_L_101 li_X6_told ls_X6_told lk_ini6 lc_X6_told (by decide +kernel)
set_option maxRecDepth 20000 in
theorem cw_L_104 : CWV RL 104 RX7 yX7_told cX7_told 2 (some .int) 1 := CWV.mk lk_L_104 li_X7_told ls_X7_told lk_ini7 lc_X7_told (by decide +kernel)
set_option maxRecDepth 20000 in
theorem cw_L_105 : CWV RL 105 RX6 yX6_digest cX6_digest 5 (some .long) 0 := CWV.mk lk_L_105 li_X6_digest ls_X6_digest lk_ini6 lc_X6_digest (by decide +kernel)
set_option maxRecDepth 20000 in
theorem cw_L_109 : CWV RL 109 RX7 yX7_digest cX7_digest 5 (some .long) 0 := CWV.mk lk_L_109 li_X7_digest ls_X7_digest lk_ini7 lc_X7_digest (by decide +kernel)
set_option maxRecDepth 20000 in
theorem cw_X6_43 : CWN RX6 43 yX5_init "SnippetStops" cX5_init 1 0 := ⟨gCode lc_X5_init, lk_ini5, li_X5_init, rfl, by decide +kernel⟩
set_option maxRecDepth 20000 in
theorem cw_X1_11 : CWN RX1 11 yX5_init "SnippetStops" cX5_init 1 0 := ⟨gCode lc_X5_init, lk_ini5, li_X5_init, rfl, by decide +kernel⟩
theorem df0 : ∀ j, j < 10 → defaultValue (tyX0 j) = vp_V [.int 0, .int 0, .null, .int 0, .int 0, .int 0, .int 0, .int 0, .int 0, .int 0] j := fun j hj => by rcases (show j = 0 ∨ j = 1 ∨ j = 2 ∨ j = 3 ∨ j = 4 ∨ j = 5 ∨ j = 6 ∨ j = 7 ∨ j = 8 ∨ j = 9 by omega) with rfl | rfl | rfl | rfl | rfl | rfl | rfl | rfl | rfl | rfl <;> rfl
theorem df1 : ∀ j, j < 10 → defaultValue (tyX1 j) = vp_V [.null, .null, .null, .int 0, .int 0, .int 0, .int 0, .null, .null, .int 0] j := fun j hj => by rcases (show j = 0 ∨ j = 1 ∨ j = 2 ∨ j = 3 ∨ j = 4 ∨ j = 5 ∨ j = 6 ∨ j = 7 ∨ j = 8 ∨ j = 9 by omega) with rfl | rfl | rfl | rfl | rfl | rfl | rfl | rfl | rfl | rfl <;> rfl
theorem df2 : ∀ j, j < 3 → defaultValue (tyX2 j) = vp_V [.int 0, .null, .int 0] j := fun j hj => by rcases (show j = 0 ∨ j = 1 ∨ j = 2 by omega) with rfl | rfl | rfl <;> rfl
theorem df3 : ∀ j, j < 8 → defaultValue (tyX3 j) = vp_V [.null, .int 0, .int 0, .null, .null, .null, .null, .null] j := fun j hj => by rcases (show j = 0 ∨ j = 1 ∨ j = 2 ∨ j = 3 ∨ j = 4 ∨ j = 5 ∨ j = 6 ∨ j = 7 by omega) with rfl | rfl | rfl | rfl | rfl | rfl | rfl | rfl <;> rfl
theorem df4 : ∀ j, j < 6 → defaultValue (tyX4 j) = vp_V [.null, .int 0, .null, .null, .int 0, .null] j := fun j hj => by rcases (show j = 0 ∨ j = 1 ∨ j = 2 ∨ j = 3 ∨ j = 4 ∨ j = 5 by omega) with rfl | rfl | rfl | rfl | rfl | rfl <;> rfl
theorem df5 : ∀ j, j < 4 → defaultValue (tyX5 j) = vp_V [.null, .null, .int 0, .null] j := fun j hj => by rcases (show j = 0 ∨ j = 1 ∨ j = 2 ∨ j = 3 by omega) with rfl | rfl | rfl | rfl <;> rfl
theorem df6 : ∀ j, j < 9 → defaultValue (tyX6 j) = vp_V [.null, .null, .null, .int 0, .null, .null, .int 0, .int 0, .int 0] j := fun j hj => by rcases (show j = 0 ∨ j = 1 ∨ j = 2 ∨ j = 3 ∨ j = 4 ∨ j = 5 ∨ j = 6 ∨ j = 7 ∨ j = 8 by omega) with rfl | rfl | rfl | rfl | rfl | rfl | rfl | rfl | rfl <;> rfl
theorem df7 : ∀ j, j < 45 → defaultValue (tyX7 j) = vp_V [.null, .null, .int 0, .int 0, .null, .int 0, .null, .null, .null, .null, .null, .null, .null, .null, .null, .null, .null, .null, .null, .null, .null, .int 0, .null, .int 0, .int 0, .int 0, .int 0, .null, .int 0, .null, .int 0, .int 0, .null, .null, .null, .null, .null, .null, .int 0, .null, .null, .null, .int 0, .null, .int 0] j := fun j hj => by rcases (show j = 0 ∨ j = 1 ∨ j = 2 ∨ j = 3 ∨ j = 4 ∨ j = 5 ∨ j = 6 ∨ j = 7 ∨ j = 8 ∨ j = 9 ∨ j = 10 ∨ j = 11 ∨ j = 12 ∨ j = 13 ∨ j = 14 ∨ j = 15 ∨ j = 16 ∨ j = 17 ∨ j = 18 ∨ j = 19 ∨ j = 20 ∨ j = 21 ∨ j = 22 ∨ j = 23 ∨ j = 24 ∨ j = 25 ∨ j = 26 ∨ j = 27 ∨ j = 28 ∨ j = 29 ∨ j = 30 ∨ j = 31 ∨ j = 32 ∨ j = 33 ∨ j = 34 ∨ j = 35 ∨ j = 36 ∨ j = 37 ∨ j = 38 ∨ j = 39 ∨ j = 40 ∨ j = 41 ∨ j = 42 ∨ j = 43 ∨ j = 44 by omega) with rfl | rfl | rfl | rfl | rfl | rfl | rfl | rfl | rfl | rfl | rfl | rfl | rfl | rfl | rfl | rfl | rfl | rfl | rfl | rfl | rfl | rfl | rfl | rfl | rfl | rfl | rfl | rfl | rfl | rfl | rfl | rfl | rfl | rfl | rfl | rfl | rfl | rfl | rfl | rfl | rfl | rfl | rfl | rfl | rfl <;> rfl
theorem vp_lit {i : Int32} {n : Nat} (h : decide (¬ (i < 0 ∨ n ≤ i.toNatClampNeg)) = true) : vp_in i n := by unfold vp_in; exact of_decide_eq_true h
