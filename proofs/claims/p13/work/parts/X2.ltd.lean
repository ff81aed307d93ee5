theorem wtX1_arm : ∀ w ∈ wzX1_arm, w ∈ lw_tbl2 := z2_cons tkX1_arm wtZ
theorem wtX1_choice : ∀ w ∈ wzX1_choice, w ∈ lw_tbl2 := z2_cons tkX1_choice wtZ
theorem wtX1_comparison : ∀ w ∈ wzX1_comparison, w ∈ lw_tbl2 := z2_cons tkX1_comparison wtZ
theorem wtX1_condition : ∀ w ∈ wzX1_condition, w ∈ lw_tbl2 := z2_cons tkX1_condition wtZ
theorem wtX1_conjunction : ∀ w ∈ wzX1_conjunction, w ∈ lw_tbl2 := z2_cons tkX1_conjunction wtZ
theorem wtX1_expression : ∀ w ∈ wzX1_expression, w ∈ lw_tbl2 := z2_cons tkX1_expression wtZ
theorem wtX1_factor : ∀ w ∈ wzX1_factor, w ∈ lw_tbl2 := z2_cons tkX1_factor wtZ
theorem wtX1_negated : ∀ w ∈ wzX1_negated, w ∈ lw_tbl2 := z2_cons tkX1_negated wtZ
theorem wtX1_one : ∀ w ∈ wzX1_one, w ∈ lw_tbl2 := z2_cons tkX1_one wtZ
theorem wtX1_product : ∀ w ∈ wzX1_product, w ∈ lw_tbl2 := z2_cons tkX1_product wtZ
theorem wtX7_armBlock : ∀ w ∈ wzX7_armBlock, w ∈ lw_tbl2 := z2_cons tkX7_armBlock wtZ
theorem wtX7_beginFor : ∀ w ∈ wzX7_beginFor, w ∈ lw_tbl2 := z2_cons tkX7_beginFor wtZ
theorem wtX7_beginIf : ∀ w ∈ wzX7_beginIf, w ∈ lw_tbl2 := z2_cons tkX7_beginIf wtZ
theorem wtX7_beginSwitch : ∀ w ∈ wzX7_beginSwitch, w ∈ lw_tbl2 := z2_cons tkX7_beginSwitch wtZ
theorem wtX7_beginWhile : ∀ w ∈ wzX7_beginWhile, w ∈ lw_tbl2 := z2_cons tkX7_beginWhile wtZ
theorem wtX7_bodyTurn : ∀ w ∈ wzX7_bodyTurn, w ∈ lw_tbl2 := z2_cons tkX7_bodyTurn wtZ
theorem wtX7_change : ∀ w ∈ wzX7_change, w ∈ lw_tbl2 := z2_cons tkX7_change wtZ
theorem wtX7_changeHere : ∀ w ∈ wzX7_changeHere, w ∈ lw_tbl2 := z2_cons tkX7_changeHere wtZ
theorem wtX7_claim : ∀ w ∈ wzX7_claim, w ∈ lw_tbl2 := z2_cons tkX7_claim wtZ
theorem wtX7_compound : ∀ w ∈ wzX7_compound, w ∈ lw_tbl2 := z2_cons tkX7_compound wtZ
theorem wtX7_conditionInside : ∀ w ∈ wzX7_conditionInside, w ∈ lw_tbl2 := z2_cons tkX7_conditionInside wtZ
theorem wtX7_define : ∀ w ∈ wzX7_define, w ∈ lw_tbl2 := z2_cons tkX7_define wtZ
theorem wtX7_endBody : ∀ w ∈ wzX7_endBody, w ∈ lw_tbl2 := z2_cons tkX7_endBody wtZ
theorem wtX7_endDo : ∀ w ∈ wzX7_endDo, w ∈ lw_tbl2 := z2_cons tkX7_endDo wtZ
theorem wtX7_forHead : ∀ w ∈ wzX7_forHead, w ∈ lw_tbl2 := z2_cons tkX7_forHead wtZ
theorem wtX7_giveBack : ∀ w ∈ wzX7_giveBack, w ∈ lw_tbl2 := z2_cons tkX7_giveBack wtZ
theorem wtX7_groupTurn : ∀ w ∈ wzX7_groupTurn, w ∈ lw_tbl2 := z2_cons tkX7_groupTurn wtZ
theorem wtX7_named : ∀ w ∈ wzX7_named, w ∈ lw_tbl2 := z2_cons tkX7_named wtZ
theorem wtX7_plain : ∀ w ∈ wzX7_plain, w ∈ lw_tbl2 := z2_cons tkX7_plain wtZ
theorem wtX7_rowHead : ∀ w ∈ wzX7_rowHead, w ∈ lw_tbl2 := z2_cons tkX7_rowHead wtZ
theorem wtX7_rowValues : ∀ w ∈ wzX7_rowValues, w ∈ lw_tbl2 := z2_cons tkX7_rowValues wtZ
theorem wtX7_statement : ∀ w ∈ wzX7_statement, w ∈ lw_tbl2 := z2_cons tkX7_statement wtZ
theorem wtX7_throwOne : ∀ w ∈ wzX7_throwOne, w ∈ lw_tbl2 := z2_cons tkX7_throwOne wtZ
theorem wtX7_turns : ∀ w ∈ wzX7_turns, w ∈ lw_tbl2 := z2_cons tkX7_turns wtZ
theorem wtX7_yieldValue : ∀ w ∈ wzX7_yieldValue, w ∈ lw_tbl2 := z2_cons tkX7_yieldValue wtZ
set_option maxRecDepth 20000 in
theorem toX0_clear : ∀ w ∈ woX0_clear, w ∈ lw_tbl2 := z_at [235, 236, 237, 241, 242, 245, 248, 251] (by decide +kernel)
set_option maxRecDepth 20000 in
theorem tkX0_clear : Cond.code yX0_clear cX0_clear 1 none ∈ lw_tbl2 := List.mem_of_getElem? (i := 639) rfl
theorem wtX0_clear : ∀ w ∈ wzX0_clear, w ∈ lw_tbl2 := z2_cons tkX0_clear (z2_app toX0_clear (z2_app wtcX0 z2_nil))
set_option maxRecDepth 20000 in
theorem toX2_init : ∀ w ∈ woX2_init, w ∈ lw_tbl2 := z_at [1328, 189, 190] (by decide +kernel)
set_option maxRecDepth 20000 in
theorem tkX2_init : Cond.code yX2_init cX2_init 1 none ∈ lw_tbl2 := List.mem_of_getElem? (i := 1327) rfl
theorem wtX2_init : ∀ w ∈ wzX2_init, w ∈ lw_tbl2 := z2_cons tkX2_init (z2_app toX2_init z2_nil)
set_option maxRecDepth 20000 in
theorem toX3_push : ∀ w ∈ woX3_push, w ∈ lw_tbl2 := z_at [492, 498, 161, 589] (by decide +kernel)
set_option maxRecDepth 20000 in
theorem tkX3_push : Cond.code yX3_push cX3_push 2 none ∈ lw_tbl2 := List.mem_of_getElem? (i := 1230) rfl
theorem wtX3_push : ∀ w ∈ wzX3_push, w ∈ lw_tbl2 := z2_cons tkX3_push (z2_app toX3_push (z2_app wtcX3 (z2_app wtX11_put z2_nil)))
set_option maxRecDepth 20000 in
theorem toX3_pop : ∀ w ∈ woX3_pop, w ∈ lw_tbl2 := z_at [498, 492, 161, 844] (by decide +kernel)
set_option maxRecDepth 20000 in
theorem tkX3_pop : Cond.code yX3_pop cX3_pop 1 (some .int) ∈ lw_tbl2 := List.mem_of_getElem? (i := 1234) rfl
theorem wtX3_pop : ∀ w ∈ wzX3_pop, w ∈ lw_tbl2 := z2_cons tkX3_pop (z2_app toX3_pop (z2_app wtcX3 (z2_app wtX11_at z2_nil)))
set_option maxRecDepth 20000 in
theorem toX3_move : ∀ w ∈ woX3_move, w ∈ lw_tbl2 := z_at [491, 161, 844, 589, 1227, 1229, 54, 173, 1231, 1233, 55] (by decide +kernel)
set_option maxRecDepth 20000 in
theorem tkX3_move : Cond.code yX3_move cX3_move 3 none ∈ lw_tbl2 := List.mem_of_getElem? (i := 1226) rfl
theorem wtX3_move : ∀ w ∈ wzX3_move, w ∈ lw_tbl2 := z2_cons tkX3_move (z2_app toX3_move (z2_app wtcX3 (z2_app wtX3_push (z2_app wtX11_at (z2_app wtX3_pop (z2_app wtX11_put z2_nil))))))
set_option maxRecDepth 20000 in
theorem toX3_compares : ∀ w ∈ woX3_compares, w ∈ lw_tbl2 := z_at [] (by decide +kernel)
set_option maxRecDepth 20000 in
theorem tkX3_compares : Cond.code yX3_compares cX3_compares 3 (some .boolean) ∈ lw_tbl2 := List.mem_of_getElem? (i := 1241) rfl
theorem wtX3_compares : ∀ w ∈ wzX3_compares, w ∈ lw_tbl2 := z2_cons tkX3_compares (z2_app toX3_compares z2_nil)
set_option maxRecDepth 20000 in
theorem toX8_init : ∀ w ∈ woX8_init, w ∈ lw_tbl2 := z_at [1258, 189, 190, 220, 1259, 1261] (by decide +kernel)
set_option maxRecDepth 20000 in
theorem tkX8_init : Cond.code yX8_init cX8_init 1 none ∈ lw_tbl2 := List.mem_of_getElem? (i := 1257) rfl
theorem wtX8_init : ∀ w ∈ wzX8_init, w ∈ lw_tbl2 := z2_cons tkX8_init (z2_app toX8_init (z2_app wtcX8 z2_nil))
set_option maxRecDepth 20000 in
theorem toX3_isHeld : ∀ w ∈ woX3_isHeld, w ∈ lw_tbl2 := z_at [500, 493] (by decide +kernel)
set_option maxRecDepth 20000 in
theorem tkX3_isHeld : Cond.code yX3_isHeld cX3_isHeld 4 (some .boolean) ∈ lw_tbl2 := List.mem_of_getElem? (i := 1282) rfl
theorem wtX3_isHeld : ∀ w ∈ wzX3_isHeld, w ∈ lw_tbl2 := z2_cons tkX3_isHeld (z2_app toX3_isHeld (z2_app wtcX3 (z2_app wtcX2 z2_nil)))
set_option maxRecDepth 20000 in
theorem toX3_freeThrown : ∀ w ∈ woX3_freeThrown, w ∈ lw_tbl2 := z_at [494, 487, 1254, 177, 1256, 1279, 1281, 60, 173] (by decide +kernel)
set_option maxRecDepth 20000 in
theorem tkX3_freeThrown : Cond.code yX3_freeThrown cX3_freeThrown 2 (some (.object "StatementRules2$Thrown")) ∈ lw_tbl2 := List.mem_of_getElem? (i := 1253) rfl
theorem wtX3_freeThrown : ∀ w ∈ wzX3_freeThrown, w ∈ lw_tbl2 := z2_cons tkX3_freeThrown (z2_app toX3_freeThrown (z2_app wtcX3 (z2_app wtcX8 (z2_app wtX8_init (z2_app wtX3_isHeld z2_nil)))))
set_option maxRecDepth 20000 in
theorem toX3_go : ∀ w ∈ woX3_go, w ∈ lw_tbl2 := z_at [507, 508, 509] (by decide +kernel)
set_option maxRecDepth 20000 in
theorem tkX3_go : Cond.code yX3_go cX3_go 4 none ∈ lw_tbl2 := List.mem_of_getElem? (i := 1286) rfl
theorem wtX3_go : ∀ w ∈ wzX3_go, w ∈ lw_tbl2 := z2_cons tkX3_go (z2_app toX3_go (z2_app wtcX3 z2_nil))
set_option maxRecDepth 20000 in
theorem toX3_raise : ∀ w ∈ woX3_raise, w ∈ lw_tbl2 := z_at [510, 1250, 1252, 59, 173, 1283, 1285, 61] (by decide +kernel)
set_option maxRecDepth 20000 in
theorem tkX3_raise : Cond.code yX3_raise cX3_raise 3 none ∈ lw_tbl2 := List.mem_of_getElem? (i := 1249) rfl
theorem wtX3_raise : ∀ w ∈ wzX3_raise, w ∈ lw_tbl2 := z2_cons tkX3_raise (z2_app toX3_raise (z2_app wtcX3 (z2_app wtcX8 (z2_app wtX3_freeThrown (z2_app wtX3_go z2_nil)))))
set_option maxRecDepth 20000 in
theorem toX3_divide : ∀ w ∈ woX3_divide, w ∈ lw_tbl2 := z_at [1227, 1229, 54, 173, 1246, 1248, 58] (by decide +kernel)
set_option maxRecDepth 20000 in
theorem tkX3_divide : Cond.code yX3_divide cX3_divide 4 none ∈ lw_tbl2 := List.mem_of_getElem? (i := 1245) rfl
theorem wtX3_divide : ∀ w ∈ wzX3_divide, w ∈ lw_tbl2 := z2_cons tkX3_divide (z2_app toX3_divide (z2_app wtX3_push (z2_app wtX3_raise z2_nil)))
set_option maxRecDepth 20000 in
theorem toX3_combine : ∀ w ∈ woX3_combine, w ∈ lw_tbl2 := z_at [1231, 1233, 55, 173, 1227, 1229, 54, 1242, 1244, 57, 1239, 1240] (by decide +kernel)
set_option maxRecDepth 20000 in
theorem tkX3_combine : Cond.code yX3_combine cX3_combine 4 none ∈ lw_tbl2 := List.mem_of_getElem? (i := 1238) rfl
theorem wtX3_combine : ∀ w ∈ wzX3_combine, w ∈ lw_tbl2 := z2_cons tkX3_combine (z2_app toX3_combine (z2_app wtX3_pop (z2_app wtX3_push (z2_app wtX3_divide (z2_app wtX3_compares z2_nil)))))
set_option maxRecDepth 20000 in
theorem toX3_goIf : ∀ w ∈ woX3_goIf, w ∈ lw_tbl2 := z_at [490, 161, 844, 499] (by decide +kernel)
set_option maxRecDepth 20000 in
theorem tkX3_goIf : Cond.code yX3_goIf cX3_goIf 3 none ∈ lw_tbl2 := List.mem_of_getElem? (i := 1294) rfl
theorem wtX3_goIf : ∀ w ∈ wzX3_goIf, w ∈ lw_tbl2 := z2_cons tkX3_goIf (z2_app toX3_goIf (z2_app wtcX3 (z2_app wtcX0 (z2_app wtX11_at z2_nil))))
set_option maxRecDepth 20000 in
theorem toX3_keep : ∀ w ∈ woX3_keep, w ∈ lw_tbl2 := z_at [492, 498, 161, 844, 490, 499, 1231, 1233, 55, 173] (by decide +kernel)
set_option maxRecDepth 20000 in
theorem tkX3_keep : Cond.code yX3_keep cX3_keep 4 none ∈ lw_tbl2 := List.mem_of_getElem? (i := 1298) rfl
theorem wtX3_keep : ∀ w ∈ wzX3_keep, w ∈ lw_tbl2 := z2_cons tkX3_keep (z2_app toX3_keep (z2_app wtcX3 (z2_app wtcX0 (z2_app wtX11_at (z2_app wtX3_pop z2_nil)))))
set_option maxRecDepth 20000 in
theorem toX3_compareCase : ∀ w ∈ woX3_compareCase, w ∈ lw_tbl2 := z_at [492, 498, 161, 844, 490, 499, 1231, 1233, 55, 173] (by decide +kernel)
set_option maxRecDepth 20000 in
theorem tkX3_compareCase : Cond.code yX3_compareCase cX3_compareCase 3 none ∈ lw_tbl2 := List.mem_of_getElem? (i := 1302) rfl
theorem wtX3_compareCase : ∀ w ∈ wzX3_compareCase, w ∈ lw_tbl2 := z2_cons tkX3_compareCase (z2_app toX3_compareCase (z2_app wtcX3 (z2_app wtcX0 (z2_app wtX3_pop (z2_app wtX11_at z2_nil)))))
set_option maxRecDepth 20000 in
theorem toX3_fillRow : ∀ w ∈ woX3_fillRow, w ∈ lw_tbl2 := z_at [491, 161, 589, 1231, 1233, 55, 173] (by decide +kernel)
set_option maxRecDepth 20000 in
theorem tkX3_fillRow : Cond.code yX3_fillRow cX3_fillRow 4 none ∈ lw_tbl2 := List.mem_of_getElem? (i := 1306) rfl
theorem wtX3_fillRow : ∀ w ∈ wzX3_fillRow, w ∈ lw_tbl2 := z2_cons tkX3_fillRow (z2_app toX3_fillRow (z2_app wtcX3 (z2_app wtX3_pop (z2_app wtX11_put z2_nil))))
set_option maxRecDepth 20000 in
theorem toX3_steer : ∀ w ∈ woX3_steer, w ∈ lw_tbl2 := z_at [490, 161, 844, 499, 489, 491, 589, 1231, 1233, 55, 173, 1291, 1293, 63, 1295, 1297, 64, 1299, 1301, 65, 1303, 1305, 66, 1227, 1229, 54] (by decide +kernel)
set_option maxRecDepth 20000 in
theorem tkX3_steer : Cond.code yX3_steer cX3_steer 3 none ∈ lw_tbl2 := List.mem_of_getElem? (i := 1290) rfl
theorem wtX3_steer : ∀ w ∈ wzX3_steer, w ∈ lw_tbl2 := z2_cons tkX3_steer (z2_app toX3_steer (z2_app wtcX3 (z2_app wtcX0 (z2_app wtcX10 (z2_app wtX11_at (z2_app wtX3_pop (z2_app wtX3_goIf (z2_app wtX3_keep (z2_app wtX3_compareCase (z2_app wtX3_fillRow (z2_app wtX3_push (z2_app wtX11_put z2_nil))))))))))))
set_option maxRecDepth 20000 in
theorem toX3_step : ∀ w ∈ woX3_step, w ∈ lw_tbl2 := z_at [504, 506] (by decide +kernel)
set_option maxRecDepth 20000 in
theorem tkX3_step : Cond.code yX3_step cX3_step 1 none ∈ lw_tbl2 := List.mem_of_getElem? (i := 1314) rfl
theorem wtX3_step : ∀ w ∈ wzX3_step, w ∈ lw_tbl2 := z2_cons tkX3_step (z2_app toX3_step (z2_app wtcX3 z2_nil))
set_option maxRecDepth 20000 in
theorem toX3_note : ∀ w ∈ woX3_note, w ∈ lw_tbl2 := z_at [502, 496, 161, 589] (by decide +kernel)
set_option maxRecDepth 20000 in
theorem tkX3_note : Cond.code yX3_note cX3_note 3 none ∈ lw_tbl2 := List.mem_of_getElem? (i := 1318) rfl
theorem wtX3_note : ∀ w ∈ wzX3_note, w ∈ lw_tbl2 := z2_cons tkX3_note (z2_app toX3_note (z2_app wtcX3 (z2_app wtX11_put z2_nil)))
set_option maxRecDepth 20000 in
theorem toX3_enter : ∀ w ∈ woX3_enter, w ∈ lw_tbl2 := z_at [500, 493, 1323, 706, 175, 707, 485, 1324, 178, 1326, 498, 501] (by decide +kernel)
set_option maxRecDepth 20000 in
theorem tkX3_enter : Cond.code yX3_enter cX3_enter 5 none ∈ lw_tbl2 := List.mem_of_getElem? (i := 1322) rfl
theorem wtX3_enter : ∀ w ∈ wzX3_enter, w ∈ lw_tbl2 := z2_cons tkX3_enter (z2_app toX3_enter (z2_app wtcX3 (z2_app wtcX2 (z2_app wtX2_init z2_nil))))
set_option maxRecDepth 20000 in
theorem toX3_openOne : ∀ w ∈ woX3_openOne, w ∈ lw_tbl2 := z_at [489, 161, 844, 495, 501, 589, 1315, 1317, 69, 173, 1246, 1248, 58] (by decide +kernel)
set_option maxRecDepth 20000 in
theorem tkX3_openOne : Cond.code yX3_openOne cX3_openOne 2 none ∈ lw_tbl2 := List.mem_of_getElem? (i := 1357) rfl
theorem wtX3_openOne : ∀ w ∈ wzX3_openOne, w ∈ lw_tbl2 := z2_cons tkX3_openOne (z2_app toX3_openOne (z2_app wtcX3 (z2_app wtcX10 (z2_app wtX11_at (z2_app wtX3_note (z2_app wtX11_put (z2_app wtX3_raise z2_nil)))))))
set_option maxRecDepth 20000 in
theorem toX3_act : ∀ w ∈ woX3_act, w ∈ lw_tbl2 := z_at [505, 506, 1311, 1313, 68, 173, 1231, 1233, 55, 1315, 1317, 69, 1319, 1321, 70, 1354, 1356, 71] (by decide +kernel)
set_option maxRecDepth 20000 in
theorem tkX3_act : Cond.code yX3_act cX3_act 3 none ∈ lw_tbl2 := List.mem_of_getElem? (i := 1310) rfl
theorem wtX3_act : ∀ w ∈ wzX3_act, w ∈ lw_tbl2 := z2_cons tkX3_act (z2_app toX3_act (z2_app wtcX3 (z2_app wtX3_step (z2_app wtX3_pop (z2_app wtX3_note (z2_app wtX3_enter (z2_app wtX3_openOne z2_nil)))))))
set_option maxRecDepth 20000 in
theorem toX3_frame : ∀ w ∈ woX3_frame, w ∈ lw_tbl2 := z_at [500, 493] (by decide +kernel)
set_option maxRecDepth 20000 in
theorem tkX3_frame : Cond.code yX3_frame cX3_frame 2 (some (.object "StatementRules2$Frame")) ∈ lw_tbl2 := List.mem_of_getElem? (i := 1365) rfl
theorem wtX3_frame : ∀ w ∈ wzX3_frame, w ∈ lw_tbl2 := z2_cons tkX3_frame (z2_app toX3_frame (z2_app wtcX3 z2_nil))
set_option maxRecDepth 20000 in
theorem toX3_throwAgain : ∀ w ∈ woX3_throwAgain, w ∈ lw_tbl2 := z_at [510, 1283, 1285, 61, 173] (by decide +kernel)
set_option maxRecDepth 20000 in
theorem tkX3_throwAgain : Cond.code yX3_throwAgain cX3_throwAgain 2 none ∈ lw_tbl2 := List.mem_of_getElem? (i := 1369) rfl
theorem wtX3_throwAgain : ∀ w ∈ wzX3_throwAgain, w ∈ lw_tbl2 := z2_cons tkX3_throwAgain (z2_app toX3_throwAgain (z2_app wtcX2 (z2_app wtcX3 (z2_app wtX3_go z2_nil))))
set_option maxRecDepth 20000 in
theorem toX3_resume : ∀ w ∈ woX3_resume, w ∈ lw_tbl2 := z_at [500, 510, 1283, 1285, 61, 173] (by decide +kernel)
set_option maxRecDepth 20000 in
theorem tkX3_resume : Cond.code yX3_resume cX3_resume 2 none ∈ lw_tbl2 := List.mem_of_getElem? (i := 1373) rfl
theorem wtX3_resume : ∀ w ∈ wzX3_resume, w ∈ lw_tbl2 := z2_cons tkX3_resume (z2_app toX3_resume (z2_app wtcX3 (z2_app wtcX2 (z2_app wtX3_go z2_nil))))
set_option maxRecDepth 20000 in
theorem toX3_handle : ∀ w ∈ woX3_handle, w ∈ lw_tbl2 := z_at [489, 491, 161, 589, 1378, 1159, 1160, 162, 1291, 1293, 63, 173, 1366, 1368, 74] (by decide +kernel)
set_option maxRecDepth 20000 in
theorem tkX3_handle : Cond.code yX3_handle cX3_handle 4 none ∈ lw_tbl2 := List.mem_of_getElem? (i := 1377) rfl
theorem wtX3_handle : ∀ w ∈ wzX3_handle, w ∈ lw_tbl2 := z2_cons tkX3_handle (z2_app toX3_handle (z2_app wtcX2 (z2_app wtcX3 (z2_app wtcX8 (z2_app wtX10_isUnder (z2_app wtX3_goIf (z2_app wtX11_put (z2_app wtX3_throwAgain z2_nil))))))))
set_option maxRecDepth 20000 in
theorem toX3_turn : ∀ w ∈ woX3_turn, w ∈ lw_tbl2 := z_at [500, 1362, 1364, 73, 173, 1370, 1372, 75, 1283, 1285, 61, 1231, 1233, 55, 1246, 1248, 58, 1366, 1368, 74, 1374, 1376, 76] (by decide +kernel)
set_option maxRecDepth 20000 in
theorem tkX3_turn : Cond.code yX3_turn cX3_turn 3 none ∈ lw_tbl2 := List.mem_of_getElem? (i := 1361) rfl
theorem wtX3_turn : ∀ w ∈ wzX3_turn, w ∈ lw_tbl2 := z2_cons tkX3_turn (z2_app toX3_turn (z2_app wtcX3 (z2_app wtX3_frame (z2_app wtX3_resume (z2_app wtX3_go (z2_app wtX3_pop (z2_app wtX3_raise (z2_app wtX3_throwAgain (z2_app wtX3_handle z2_nil)))))))))
set_option maxRecDepth 20000 in
theorem toX3_instruction : ∀ w ∈ woX3_instruction, w ∈ lw_tbl2 := z_at [490, 499, 161, 844, 1358, 1360, 72, 173, 1307, 1309, 67, 1287, 1289, 62, 1235, 1237, 56, 1223, 1225, 53] (by decide +kernel)
set_option maxRecDepth 20000 in
theorem tkX3_instruction : Cond.code yX3_instruction cX3_instruction 3 none ∈ lw_tbl2 := List.mem_of_getElem? (i := 1221) rfl
theorem wtX3_instruction : ∀ w ∈ wzX3_instruction, w ∈ lw_tbl2 := z2_cons tkX3_instruction (z2_app toX3_instruction (z2_app wtcX3 (z2_app wtcX0 (z2_app wtX11_at (z2_app wtX3_turn (z2_app wtX3_act (z2_app wtX3_steer (z2_app wtX3_combine (z2_app wtX3_move z2_nil)))))))))
set_option maxRecDepth 20000 in
theorem toX3_arrive : ∀ w ∈ woX3_arrive, w ∈ lw_tbl2 := z_at [507, 490, 509, 161, 844, 499, 508, 506, 1227, 1229, 54, 173] (by decide +kernel)
set_option maxRecDepth 20000 in
theorem tkX3_arrive : Cond.code yX3_arrive cX3_arrive 1 none ∈ lw_tbl2 := List.mem_of_getElem? (i := 1386) rfl
theorem wtX3_arrive : ∀ w ∈ wzX3_arrive, w ∈ lw_tbl2 := z2_cons tkX3_arrive (z2_app toX3_arrive (z2_app wtcX3 (z2_app wtcX0 (z2_app wtX11_at (z2_app wtX3_push z2_nil)))))
set_option maxRecDepth 20000 in
theorem toX8_suppress : ∀ w ∈ woX8_suppress, w ∈ lw_tbl2 := z_at [1265, 1259, 161, 589, 1261] (by decide +kernel)
set_option maxRecDepth 20000 in
theorem tkX8_suppress : Cond.code yX8_suppress cX8_suppress 3 none ∈ lw_tbl2 := List.mem_of_getElem? (i := 1398) rfl
theorem wtX8_suppress : ∀ w ∈ wzX8_suppress, w ∈ lw_tbl2 := z2_cons tkX8_suppress (z2_app toX8_suppress (z2_app wtcX8 (z2_app wtX11_put z2_nil)))
set_option maxRecDepth 20000 in
theorem toX3_closeOne : ∀ w ∈ woX3_closeOne, w ∈ lw_tbl2 := z_at [489, 161, 844, 507, 510, 1315, 1317, 69, 173, 1246, 1248, 58, 1395, 1396, 1397, 177] (by decide +kernel)
set_option maxRecDepth 20000 in
theorem tkX3_closeOne : Cond.code yX3_closeOne cX3_closeOne 3 none ∈ lw_tbl2 := List.mem_of_getElem? (i := 1394) rfl
theorem wtX3_closeOne : ∀ w ∈ wzX3_closeOne, w ∈ lw_tbl2 := z2_cons tkX3_closeOne (z2_app toX3_closeOne (z2_app wtcX3 (z2_app wtcX10 (z2_app wtX11_at (z2_app wtX3_note (z2_app wtX3_raise (z2_app wtX8_suppress z2_nil)))))))
set_option maxRecDepth 20000 in
theorem toX3_begin : ∀ w ∈ woX3_begin, w ∈ lw_tbl2 := z_at [498, 490, 161, 844, 499, 507] (by decide +kernel)
set_option maxRecDepth 20000 in
theorem tkX3_begin : Cond.code yX3_begin cX3_begin 3 none ∈ lw_tbl2 := List.mem_of_getElem? (i := 1403) rfl
theorem wtX3_begin : ∀ w ∈ wzX3_begin, w ∈ lw_tbl2 := z2_cons tkX3_begin (z2_app toX3_begin (z2_app wtcX2 (z2_app wtcX3 (z2_app wtcX0 (z2_app wtX11_at z2_nil)))))
set_option maxRecDepth 20000 in
theorem toX3_leaveBody : ∀ w ∈ woX3_leaveBody, w ∈ lw_tbl2 := z_at [501, 507, 510, 495, 161, 844, 1400, 1402, 81, 173, 1391, 1393, 80] (by decide +kernel)
set_option maxRecDepth 20000 in
theorem tkX3_leaveBody : Cond.code yX3_leaveBody cX3_leaveBody 3 none ∈ lw_tbl2 := List.mem_of_getElem? (i := 1390) rfl
theorem wtX3_leaveBody : ∀ w ∈ wzX3_leaveBody, w ∈ lw_tbl2 := z2_cons tkX3_leaveBody (z2_app toX3_leaveBody (z2_app wtcX3 (z2_app wtcX2 (z2_app wtX3_begin (z2_app wtX11_at (z2_app wtX3_closeOne z2_nil))))))
set_option maxRecDepth 20000 in
theorem toX3_enterFinally : ∀ w ∈ woX3_enterFinally, w ∈ lw_tbl2 := z_at [510, 507, 508, 509, 1400, 1402, 81, 173] (by decide +kernel)
set_option maxRecDepth 20000 in
theorem tkX3_enterFinally : Cond.code yX3_enterFinally cX3_enterFinally 2 none ∈ lw_tbl2 := List.mem_of_getElem? (i := 1407) rfl
theorem wtX3_enterFinally : ∀ w ∈ wzX3_enterFinally, w ∈ lw_tbl2 := z2_cons tkX3_enterFinally (z2_app toX3_enterFinally (z2_app wtcX2 (z2_app wtcX3 (z2_app wtX3_begin z2_nil))))
set_option maxRecDepth 20000 in
theorem toX3_leaveOne : ∀ w ∈ woX3_leaveOne, w ∈ lw_tbl2 := z_at [500, 509, 505, 490, 161, 844, 1362, 1364, 73, 173, 1383, 1385, 78, 1315, 1317, 69, 1404, 1406, 82, 1387, 1389, 79] (by decide +kernel)
set_option maxRecDepth 20000 in
theorem tkX3_leaveOne : Cond.code yX3_leaveOne cX3_leaveOne 2 none ∈ lw_tbl2 := List.mem_of_getElem? (i := 1382) rfl
theorem wtX3_leaveOne : ∀ w ∈ wzX3_leaveOne, w ∈ lw_tbl2 := z2_cons tkX3_leaveOne (z2_app toX3_leaveOne (z2_app wtcX3 (z2_app wtcX2 (z2_app wtcX0 (z2_app wtX3_frame (z2_app wtX3_arrive (z2_app wtX3_note (z2_app wtX11_at (z2_app wtX3_enterFinally (z2_app wtX3_leaveBody z2_nil))))))))))
set_option maxRecDepth 20000 in
theorem toX3_perform : ∀ w ∈ woX3_perform, w ∈ lw_tbl2 := z_at [490, 491, 161, 589, 498, 499, 500, 501, 502, 504, 505, 507, 508, 510, 506, 1217, 1379, 1381, 77, 173, 1218, 1220, 52] (by decide +kernel)
set_option maxRecDepth 20000 in
theorem tkX3_perform : Cond.code yX3_perform cX3_perform 4 (some .int) ∈ lw_tbl2 := List.mem_of_getElem? (i := 1215) rfl
theorem wtX3_perform : ∀ w ∈ wzX3_perform, w ∈ lw_tbl2 := z2_cons tkX3_perform (z2_app toX3_perform (z2_app wtcX3 (z2_app wtcX0 (z2_app wtX11_put (z2_app wtX3_leaveOne (z2_app wtX3_instruction z2_nil))))))
set_option maxRecDepth 20000 in
theorem toX3_lastThrown : ∀ w ∈ woX3_lastThrown, w ∈ lw_tbl2 := z_at [506, 510] (by decide +kernel)
set_option maxRecDepth 20000 in
theorem tkX3_lastThrown : Cond.code yX3_lastThrown cX3_lastThrown 1 (some (.object "StatementRules2$Thrown")) ∈ lw_tbl2 := List.mem_of_getElem? (i := 1419) rfl
theorem wtX3_lastThrown : ∀ w ∈ wzX3_lastThrown, w ∈ lw_tbl2 := z2_cons tkX3_lastThrown (z2_app toX3_lastThrown (z2_app wtcX3 z2_nil))
set_option maxRecDepth 20000 in
theorem toX3_answer : ∀ w ∈ woX3_answer, w ∈ lw_tbl2 := z_at [504, 502, 506, 508, 505, 1416, 1417, 1418, 173] (by decide +kernel)
set_option maxRecDepth 20000 in
theorem tkX3_answer : Cond.code yX3_answer cX3_answer 3 (some .int) ∈ lw_tbl2 := List.mem_of_getElem? (i := 1415) rfl
theorem wtX3_answer : ∀ w ∈ wzX3_answer, w ∈ lw_tbl2 := z2_cons tkX3_answer (z2_app toX3_answer (z2_app wtcX3 (z2_app wtcX8 (z2_app wtX3_lastThrown z2_nil))))
set_option maxRecDepth 20000 in
theorem toX6_clear : ∀ w ∈ woX6_clear, w ∈ lw_tbl2 := z_at [410, 412, 413, 415] (by decide +kernel)
set_option maxRecDepth 20000 in
theorem tkX6_clear : Cond.code yX6_clear cX6_clear 1 none ∈ lw_tbl2 := List.mem_of_getElem? (i := 653) rfl
theorem wtX6_clear : ∀ w ∈ wzX6_clear, w ∈ lw_tbl2 := z2_cons tkX6_clear (z2_app toX6_clear (z2_app wtcX6 z2_nil))
set_option maxRecDepth 20000 in
theorem toX9_start : ∀ w ∈ woX9_start, w ∈ lw_tbl2 := z_at [340, 341, 658, 659, 660, 166] (by decide +kernel)
set_option maxRecDepth 20000 in
theorem tkX9_start : Cond.code yX9_start cX9_start 2 none ∈ lw_tbl2 := List.mem_of_getElem? (i := 657) rfl
theorem wtX9_start : ∀ w ∈ wzX9_start, w ∈ lw_tbl2 := z2_cons tkX9_start (z2_app toX9_start (z2_app wtcX9 (z2_app wtX9_advance z2_nil)))
set_option maxRecDepth 20000 in
theorem toX7_translate : ∀ w ∈ woX7_translate, w ∈ lw_tbl2 := z_at [438, 439, 444, 445, 640, 649, 430, 446, 447, 449, 450, 453, 454, 431, 432, 433, 435, 436, 636, 637, 638, 163, 641, 642, 643, 645, 646, 647, 171, 650, 651, 652, 172, 654, 655, 656, 166, 701, 702, 703, 779, 781, 7, 165, 1009, 1010, 1012, 865, 164] (by decide +kernel)
set_option maxRecDepth 20000 in
theorem tkX7_translate : Cond.code yX7_translate cX7_translate 2 (some .int) ∈ lw_tbl2 := List.mem_of_getElem? (i := 635) rfl
theorem wtX7_translate : ∀ w ∈ wzX7_translate, w ∈ lw_tbl2 := z2_cons tkX7_translate (z2_app toX7_translate (z2_app wtcX7 (z2_app wtcX4 (z2_app wtX0_clear (z2_app wtX0_newCells (z2_app wtX4_add (z2_app wtX6_clear (z2_app wtX9_start (z2_app wtX6_push (z2_app wtX7_turns (z2_app wtX1_fail z2_nil)))))))))))
set_option maxRecDepth 20000 in
theorem toX10_isFull : ∀ w ∈ woX10_isFull, w ∈ lw_tbl2 := z_at [204] (by decide +kernel)
set_option maxRecDepth 20000 in
theorem tkX10_isFull : Cond.code yX10_isFull cX10_isFull 1 (some .boolean) ∈ lw_tbl2 := List.mem_of_getElem? (i := 606) rfl
theorem wtX10_isFull : ∀ w ∈ wzX10_isFull, w ∈ lw_tbl2 := z2_cons tkX10_isFull (z2_app toX10_isFull (z2_app wtcX10 z2_nil))
set_option maxRecDepth 20000 in
theorem toX10_addKind : ∀ w ∈ woX10_addKind, w ∈ lw_tbl2 := z_at [197, 204, 161, 589] (by decide +kernel)
set_option maxRecDepth 20000 in
theorem tkX10_addKind : Cond.code yX10_addKind cX10_addKind 2 (some .int) ∈ lw_tbl2 := List.mem_of_getElem? (i := 610) rfl
theorem wtX10_addKind : ∀ w ∈ wzX10_addKind, w ∈ lw_tbl2 := z2_cons tkX10_addKind (z2_app toX10_addKind (z2_app wtcX10 (z2_app wtX11_put z2_nil)))
set_option maxRecDepth 20000 in
theorem toX10_tellResource : ∀ w ∈ woX10_tellResource, w ∈ lw_tbl2 := z_at [198, 161, 589, 200, 202] (by decide +kernel)
set_option maxRecDepth 20000 in
theorem tkX10_tellResource : Cond.code yX10_tellResource cX10_tellResource 5 none ∈ lw_tbl2 := List.mem_of_getElem? (i := 623) rfl
theorem wtX10_tellResource : ∀ w ∈ wzX10_tellResource, w ∈ lw_tbl2 := z2_cons tkX10_tellResource (z2_app toX10_tellResource (z2_app wtcX10 (z2_app wtX11_put z2_nil)))
set_option maxRecDepth 20000 in
theorem toX11_addBytes : ∀ w ∈ woX11_addBytes, w ∈ lw_tbl2 := z_at [552, 557, 588, 589, 161] (by decide +kernel)
set_option maxRecDepth 20000 in
theorem tkX11_addBytes : Cond.code yX11_addBytes cX11_addBytes 3 none ∈ lw_tbl2 := List.mem_of_getElem? (i := 587) rfl
theorem wtX11_addBytes : ∀ w ∈ wzX11_addBytes, w ∈ lw_tbl2 := z2_cons tkX11_addBytes (z2_app toX11_addBytes (z2_app wtcX11 (z2_app wtX11_put z2_nil)))
set_option maxRecDepth 20000 in
theorem toX11_feed : ∀ w ∈ woX11_feed, w ∈ lw_tbl2 := z_at [557, 584, 586, 0, 161] (by decide +kernel)
set_option maxRecDepth 20000 in
theorem tkX11_feed : Cond.code yX11_feed cX11_feed 6 (some .int) ∈ lw_tbl2 := List.mem_of_getElem? (i := 583) rfl
theorem wtX11_feed : ∀ w ∈ wzX11_feed, w ∈ lw_tbl2 := z2_cons tkX11_feed (z2_app toX11_feed (z2_app wtcX11 (z2_app wtX11_addBytes z2_nil)))
set_option maxRecDepth 20000 in
theorem toX11_cut : ∀ w ∈ woX11_cut, w ∈ lw_tbl2 := z_at [557] (by decide +kernel)
set_option maxRecDepth 20000 in
theorem tkX11_cut : Cond.code yX11_cut cX11_cut 3 (some .int) ∈ lw_tbl2 := List.mem_of_getElem? (i := 594) rfl
theorem wtX11_cut : ∀ w ∈ wzX11_cut, w ∈ lw_tbl2 := z2_cons tkX11_cut (z2_app toX11_cut (z2_app wtcX11 z2_nil))
set_option maxRecDepth 20000 in
theorem toX11_kind : ∀ w ∈ woX11_kind, w ∈ lw_tbl2 := z_at [553, 599, 600, 601, 162, 603, 604, 605, 607, 608, 609] (by decide +kernel)
set_option maxRecDepth 20000 in
theorem tkX11_kind : Cond.code yX11_kind cX11_kind 2 (some .int) ∈ lw_tbl2 := List.mem_of_getElem? (i := 598) rfl
theorem wtX11_kind : ∀ w ∈ wzX11_kind, w ∈ lw_tbl2 := z2_cons tkX11_kind (z2_app toX11_kind (z2_app wtcX11 (z2_app wtX10_isKind (z2_app wtX10_isFull (z2_app wtX10_addKind z2_nil)))))
set_option maxRecDepth 20000 in
theorem toX11_isKindOrNothing : ∀ w ∈ woX11_isKindOrNothing, w ∈ lw_tbl2 := z_at [553, 599, 600, 601, 162] (by decide +kernel)
set_option maxRecDepth 20000 in
theorem tkX11_isKindOrNothing : Cond.code yX11_isKindOrNothing cX11_isKindOrNothing 2 (some .boolean) ∈ lw_tbl2 := List.mem_of_getElem? (i := 619) rfl
theorem wtX11_isKindOrNothing : ∀ w ∈ wzX11_isKindOrNothing, w ∈ lw_tbl2 := z2_cons tkX11_isKindOrNothing (z2_app toX11_isKindOrNothing (z2_app wtcX11 (z2_app wtX10_isKind z2_nil)))
set_option maxRecDepth 20000 in
theorem toX11_resource : ∀ w ∈ woX11_resource, w ∈ lw_tbl2 := z_at [553, 616, 618, 1, 161, 620, 621, 622, 162] (by decide +kernel)
set_option maxRecDepth 20000 in
theorem tkX11_resource : Cond.code yX11_resource cX11_resource 5 (some .int) ∈ lw_tbl2 := List.mem_of_getElem? (i := 615) rfl
theorem wtX11_resource : ∀ w ∈ wzX11_resource, w ∈ lw_tbl2 := z2_cons tkX11_resource (z2_app toX11_resource (z2_app wtcX11 (z2_app wtX11_isKindOrNothing (z2_app wtX10_tellResource z2_nil))))
set_option maxRecDepth 20000 in
theorem toX11_asserts : ∀ w ∈ woX11_asserts, w ∈ lw_tbl2 := z_at [553] (by decide +kernel)
set_option maxRecDepth 20000 in
theorem tkX11_asserts : Cond.code yX11_asserts cX11_asserts 3 (some .int) ∈ lw_tbl2 := List.mem_of_getElem? (i := 627) rfl
theorem wtX11_asserts : ∀ w ∈ wzX11_asserts, w ∈ lw_tbl2 := z2_cons tkX11_asserts (z2_app toX11_asserts (z2_app wtcX11 (z2_app wtcX10 z2_nil)))
set_option maxRecDepth 20000 in
theorem toX11_read : ∀ w ∈ woX11_read, w ∈ lw_tbl2 := z_at [557, 560, 555, 558, 559, 452, 450, 554, 632, 633, 634, 165] (by decide +kernel)
set_option maxRecDepth 20000 in
theorem tkX11_read : Cond.code yX11_read cX11_read 2 (some .int) ∈ lw_tbl2 := List.mem_of_getElem? (i := 631) rfl
theorem wtX11_read : ∀ w ∈ wzX11_read, w ∈ lw_tbl2 := z2_cons tkX11_read (z2_app toX11_read (z2_app wtcX11 (z2_app wtcX7 (z2_app wtcX0 (z2_app wtX7_translate z2_nil)))))
set_option maxRecDepth 20000 in
theorem toX11_fault : ∀ w ∈ woX11_fault, w ∈ lw_tbl2 := z_at [558] (by decide +kernel)
set_option maxRecDepth 20000 in
theorem tkX11_fault : Cond.code yX11_fault cX11_fault 1 (some .int) ∈ lw_tbl2 := List.mem_of_getElem? (i := 1203) rfl
theorem wtX11_fault : ∀ w ∈ wzX11_fault, w ∈ lw_tbl2 := z2_cons tkX11_fault (z2_app toX11_fault (z2_app wtcX11 z2_nil))
set_option maxRecDepth 20000 in
theorem toX11_program : ∀ w ∈ woX11_program, w ∈ lw_tbl2 := z_at [559, 554] (by decide +kernel)
set_option maxRecDepth 20000 in
theorem tkX11_program : Cond.code yX11_program cX11_program 2 (some .int) ∈ lw_tbl2 := List.mem_of_getElem? (i := 1207) rfl
theorem wtX11_program : ∀ w ∈ wzX11_program, w ∈ lw_tbl2 := z2_cons tkX11_program (z2_app toX11_program (z2_app wtcX11 (z2_app wtcX0 z2_nil)))
set_option maxRecDepth 20000 in
theorem toX11_run : ∀ w ∈ woX11_run, w ∈ lw_tbl2 := z_at [559, 560, 556, 1212, 1213, 1214, 173] (by decide +kernel)
set_option maxRecDepth 20000 in
theorem tkX11_run : Cond.code yX11_run cX11_run 3 (some .int) ∈ lw_tbl2 := List.mem_of_getElem? (i := 1211) rfl
theorem wtX11_run : ∀ w ∈ wzX11_run, w ∈ lw_tbl2 := z2_cons tkX11_run (z2_app toX11_run (z2_app wtcX11 (z2_app wtX3_perform z2_nil)))
set_option maxRecDepth 20000 in
theorem toX11_ran : ∀ w ∈ woX11_ran, w ∈ lw_tbl2 := z_at [560, 556, 1412, 1413, 1414, 173] (by decide +kernel)
set_option maxRecDepth 20000 in
theorem tkX11_ran : Cond.code yX11_ran cX11_ran 2 (some .int) ∈ lw_tbl2 := List.mem_of_getElem? (i := 1411) rfl
theorem wtX11_ran : ∀ w ∈ wzX11_ran, w ∈ lw_tbl2 := z2_cons tkX11_ran (z2_app toX11_ran (z2_app wtcX11 (z2_app wtX3_answer z2_nil)))
set_option maxRecDepth 20000 in
theorem toX11_trace : ∀ w ∈ woX11_trace, w ∈ lw_tbl2 := z_at [560, 556, 1424, 844, 161] (by decide +kernel)
set_option maxRecDepth 20000 in
theorem tkX11_trace : Cond.code yX11_trace cX11_trace 3 (some .int) ∈ lw_tbl2 := List.mem_of_getElem? (i := 1423) rfl
theorem wtX11_trace : ∀ w ∈ wzX11_trace, w ∈ lw_tbl2 := z2_cons tkX11_trace (z2_app toX11_trace (z2_app wtcX11 (z2_app wtcX3 (z2_app wtX11_at z2_nil))))
set_option maxRecDepth 20000 in
theorem toX11_suppressed : ∀ w ∈ woX11_suppressed, w ∈ lw_tbl2 := z_at [560, 556, 1424, 844, 161, 1429, 1417, 1418, 173] (by decide +kernel)
set_option maxRecDepth 20000 in
theorem tkX11_suppressed : Cond.code yX11_suppressed cX11_suppressed 4 (some .int) ∈ lw_tbl2 := List.mem_of_getElem? (i := 1428) rfl
theorem wtX11_suppressed : ∀ w ∈ wzX11_suppressed, w ∈ lw_tbl2 := z2_cons tkX11_suppressed (z2_app toX11_suppressed (z2_app wtcX11 (z2_app wtcX8 (z2_app wtX11_at (z2_app wtX3_lastThrown z2_nil)))))
set_option maxRecDepth 20000 in
theorem toX11_under : ∀ w ∈ woX11_under, w ∈ lw_tbl2 := z_at [553, 599, 600, 601, 162, 1434, 1159, 1160] (by decide +kernel)
set_option maxRecDepth 20000 in
theorem tkX11_under : Cond.code yX11_under cX11_under 3 (some .int) ∈ lw_tbl2 := List.mem_of_getElem? (i := 1433) rfl
theorem wtX11_under : ∀ w ∈ wzX11_under, w ∈ lw_tbl2 := z2_cons tkX11_under (z2_app toX11_under (z2_app wtcX11 (z2_app wtX10_isKind (z2_app wtX10_isUnder z2_nil))))
set_option maxRecDepth 20000 in
theorem toX4_init : ∀ w ∈ woX4_init, w ∈ lw_tbl2 := z_at [385, 189, 190, 371, 386, 220, 387, 388] (by decide +kernel)
set_option maxRecDepth 20000 in
theorem tkX4_init : Cond.code yX4_init cX4_init 1 none ∈ lw_tbl2 := List.mem_of_getElem? (i := 384) rfl
theorem wtX4_init : ∀ w ∈ wzX4_init, w ∈ lw_tbl2 := z2_cons tkX4_init (z2_app toX4_init (z2_app wtcX4 z2_nil))
set_option maxRecDepth 20000 in
theorem toX6_init : ∀ w ∈ woX6_init, w ∈ lw_tbl2 := z_at [405, 189, 190, 406, 408, 220, 409] (by decide +kernel)
set_option maxRecDepth 20000 in
theorem tkX6_init : Cond.code yX6_init cX6_init 1 none ∈ lw_tbl2 := List.mem_of_getElem? (i := 404) rfl
theorem wtX6_init : ∀ w ∈ wzX6_init, w ∈ lw_tbl2 := z2_cons tkX6_init (z2_app toX6_init (z2_app wtcX6 z2_nil))
set_option maxRecDepth 20000 in
theorem toX0_init : ∀ w ∈ woX0_init, w ∈ lw_tbl2 := z_at [226, 189, 190, 220, 227, 229, 231, 233, 234] (by decide +kernel)
set_option maxRecDepth 20000 in
theorem tkX0_init : Cond.code yX0_init cX0_init 1 none ∈ lw_tbl2 := List.mem_of_getElem? (i := 225) rfl
theorem wtX0_init : ∀ w ∈ wzX0_init, w ∈ lw_tbl2 := z2_cons tkX0_init (z2_app toX0_init (z2_app wtcX0 z2_nil))
set_option maxRecDepth 20000 in
theorem toX10_init : ∀ w ∈ woX10_init, w ∈ lw_tbl2 := z_at [196, 189, 190, 220, 197, 198, 200, 202, 204] (by decide +kernel)
set_option maxRecDepth 20000 in
theorem tkX10_init : Cond.code yX10_init cX10_init 2 none ∈ lw_tbl2 := List.mem_of_getElem? (i := 195) rfl
theorem wtX10_init : ∀ w ∈ wzX10_init, w ∈ lw_tbl2 := z2_cons tkX10_init (z2_app toX10_init (z2_app wtcX10 z2_nil))
set_option maxRecDepth 20000 in
theorem toX1_init : ∀ w ∈ woX1_init, w ∈ lw_tbl2 := z_at [379, 189, 190, 380, 381, 171, 383, 443, 434, 437, 440] (by decide +kernel)
set_option maxRecDepth 20000 in
theorem tkX1_init : Cond.code yX1_init cX1_init 4 none ∈ lw_tbl2 := List.mem_of_getElem? (i := 378) rfl
theorem wtX1_init : ∀ w ∈ wzX1_init, w ∈ lw_tbl2 := z2_cons tkX1_init (z2_app toX1_init (z2_app wtcX4 (z2_app wtcX7 (z2_app wtX4_init z2_nil))))
set_option maxRecDepth 20000 in
theorem toX7_init : ∀ w ∈ woX7_init, w ∈ lw_tbl2 := z_at [164, 376, 377, 400, 401, 172, 403, 430] (by decide +kernel)
set_option maxRecDepth 20000 in
theorem tkX7_init : Cond.code yX7_init cX7_init 4 none ∈ lw_tbl2 := List.mem_of_getElem? (i := 375) rfl
theorem wtX7_init : ∀ w ∈ wzX7_init, w ∈ lw_tbl2 := z2_cons tkX7_init (z2_app toX7_init (z2_app wtcX6 (z2_app wtcX7 (z2_app wtX1_init (z2_app wtX6_init z2_nil)))))
set_option maxRecDepth 20000 in
theorem toX3_init : ∀ w ∈ woX3_init, w ∈ lw_tbl2 := z_at [484, 189, 190, 220, 491, 492, 485, 493, 487, 494, 495, 496, 489, 490] (by decide +kernel)
set_option maxRecDepth 20000 in
theorem tkX3_init : Cond.code yX3_init cX3_init 3 none ∈ lw_tbl2 := List.mem_of_getElem? (i := 483) rfl
theorem wtX3_init : ∀ w ∈ wzX3_init, w ∈ lw_tbl2 := z2_cons tkX3_init (z2_app toX3_init (z2_app wtcX3 z2_nil))
set_option maxRecDepth 20000 in
theorem toX12_init : ∀ w ∈ woX12_init, w ∈ lw_tbl2 := z_at [1509, 189, 190, 220, 1536, 1538, 1539, 1884, 1540, 1541, 1542, 371, 1510, 1511, 1512, 1513, 1514, 1515, 1516, 1517, 1518, 1519, 1520, 1521, 1522, 1523, 1524, 1525, 1526, 1527, 1528, 1529, 1530, 1531, 1532, 1533, 1534, 1544, 1556, 1557, 1558, 1560, 1561, 1562, 1563, 1565, 1566, 1567, 1569, 1570, 1571, 1572, 1574, 1575, 1576, 1579, 1580, 1581, 1582, 1583, 1584, 1585, 1586, 1592, 1593, 1595, 1596, 1597, 1599, 1600, 1601, 1602, 1603, 1604, 1605, 1606, 1607, 1608, 1609, 1617, 1618, 1619, 1621, 1622, 1623, 1624, 1625, 1626, 1629, 1631, 1633, 1635, 1636, 1637, 1638, 1639, 1640, 1641, 1642, 1643, 1644] (by decide +kernel)
set_option maxRecDepth 20000 in
theorem tkX12_init : Cond.code yX12_init cX12_init 1 none ∈ lw_tbl2 := List.mem_of_getElem? (i := 1508) rfl
theorem wtX12_init : ∀ w ∈ wzX12_init, w ∈ lw_tbl2 := z2_cons tkX12_init (z2_app toX12_init (z2_app wtcX12 z2_nil))
set_option maxRecDepth 20000 in
theorem toJ0_coder_7d493 : ∀ w ∈ woJ0_coder_7d493, w ∈ lw_tbl2 := z_at [298, 2275] (by decide +kernel)
set_option maxRecDepth 20000 in
theorem tkJ0_coder_7d493 : Cond.code yJ0_coder_7d493 cJ0_coder_7d493 1 (some .byte) ∈ lw_tbl2 := List.mem_of_getElem? (i := 297) rfl
theorem wtJ0_coder_7d493 : ∀ w ∈ wzJ0_coder_7d493, w ∈ lw_tbl2 := z2_cons tkJ0_coder_7d493 (z2_app toJ0_coder_7d493 z2_nil)
set_option maxRecDepth 20000 in
theorem toJ0_length_8abf5 : ∀ w ∈ woJ0_length_8abf5, w ∈ lw_tbl2 := z_at [2274, 294, 295, 296, 167] (by decide +kernel)
set_option maxRecDepth 20000 in
theorem tkJ0_length_8abf5 : Cond.code yJ0_length_8abf5 cJ0_length_8abf5 1 (some .int) ∈ lw_tbl2 := List.mem_of_getElem? (i := 293) rfl
theorem wtJ0_length_8abf5 : ∀ w ∈ wzJ0_length_8abf5, w ∈ lw_tbl2 := z2_cons tkJ0_length_8abf5 (z2_app toJ0_length_8abf5 (z2_app wtJ0_coder_7d493 z2_nil))
set_option maxRecDepth 20000 in
theorem toJ0_isLatin1_aae02 : ∀ w ∈ woJ0_isLatin1_aae02, w ∈ lw_tbl2 := z_at [298, 2275] (by decide +kernel)
set_option maxRecDepth 20000 in
theorem tkJ0_isLatin1_aae02 : Cond.code yJ0_isLatin1_aae02 cJ0_isLatin1_aae02 1 (some .boolean) ∈ lw_tbl2 := List.mem_of_getElem? (i := 307) rfl
theorem wtJ0_isLatin1_aae02 : ∀ w ∈ wzJ0_isLatin1_aae02, w ∈ lw_tbl2 := z2_cons tkJ0_isLatin1_aae02 (z2_app toJ0_isLatin1_aae02 z2_nil)
set_option maxRecDepth 20000 in
theorem toJ3_checkIndex_8e157 : ∀ w ∈ woJ3_checkIndex_8e157, w ∈ lw_tbl2 := z_at [] (by decide +kernel)
set_option maxRecDepth 20000 in
theorem tkJ3_checkIndex_8e157 : Cond.code yJ3_checkIndex_8e157 cJ3_checkIndex_8e157 3 (some .int) ∈ lw_tbl2 := List.mem_of_getElem? (i := 318) rfl
theorem wtJ3_checkIndex_8e157 : ∀ w ∈ wzJ3_checkIndex_8e157, w ∈ lw_tbl2 := z2_cons tkJ3_checkIndex_8e157 (z2_app toJ3_checkIndex_8e157 z2_nil)
set_option maxRecDepth 20000 in
theorem toJ0_checkIndex_df160 : ∀ w ∈ woJ0_checkIndex_df160, w ∈ lw_tbl2 := z_at [314, 316, 317, 169] (by decide +kernel)
set_option maxRecDepth 20000 in
theorem tkJ0_checkIndex_df160 : Cond.code yJ0_checkIndex_df160 cJ0_checkIndex_df160 2 none ∈ lw_tbl2 := List.mem_of_getElem? (i := 313) rfl
theorem wtJ0_checkIndex_df160 : ∀ w ∈ wzJ0_checkIndex_df160, w ∈ lw_tbl2 := z2_cons tkJ0_checkIndex_df160 (z2_app toJ0_checkIndex_df160 (z2_app wtJ3_checkIndex_8e157 z2_nil))
set_option maxRecDepth 20000 in
theorem toJ1_charAt_3b067 : ∀ w ∈ woJ1_charAt_3b067, w ∈ lw_tbl2 := z_at [311, 312, 167] (by decide +kernel)
set_option maxRecDepth 20000 in
theorem tkJ1_charAt_3b067 : Cond.code yJ1_charAt_3b067 cJ1_charAt_3b067 2 (some .char) ∈ lw_tbl2 := List.mem_of_getElem? (i := 310) rfl
theorem wtJ1_charAt_3b067 : ∀ w ∈ wzJ1_charAt_3b067, w ∈ lw_tbl2 := z2_cons tkJ1_charAt_3b067 (z2_app toJ1_charAt_3b067 (z2_app wtJ0_checkIndex_df160 z2_nil))
set_option maxRecDepth 20000 in
theorem toJ0_charAt_5068e : ∀ w ∈ woJ0_charAt_5068e, w ∈ lw_tbl2 := z_at [2274, 304, 305, 306, 167, 308, 309, 168] (by decide +kernel)
set_option maxRecDepth 20000 in
theorem tkJ0_charAt_5068e : Cond.code yJ0_charAt_5068e cJ0_charAt_5068e 2 (some .char) ∈ lw_tbl2 := List.mem_of_getElem? (i := 303) rfl
theorem wtJ0_charAt_5068e : ∀ w ∈ wzJ0_charAt_5068e, w ∈ lw_tbl2 := z2_cons tkJ0_charAt_5068e (z2_app toJ0_charAt_5068e (z2_app wtJ0_isLatin1_aae02 (z2_app wtJ1_charAt_3b067 z2_nil)))
set_option maxRecDepth 20000 in
theorem toX9_init : ∀ w ∈ woX9_init, w ∈ lw_tbl2 := z_at [339, 288, 189, 190, 371, 338, 290, 291, 292, 167, 300, 301, 302] (by decide +kernel)
set_option maxRecDepth 20000 in
theorem tkX9_init : Cond.code yX9_init cX9_init 4 none ∈ lw_tbl2 := List.mem_of_getElem? (i := 287) rfl
theorem wtX9_init : ∀ w ∈ wzX9_init, w ∈ lw_tbl2 := z2_cons tkX9_init (z2_app toX9_init (z2_app wtcX9 (z2_app wtJ0_length_8abf5 (z2_app wtJ0_charAt_5068e z2_nil))))
set_option maxRecDepth 20000 in
theorem toX11_init : ∀ w ∈ woX11_init, w ∈ lw_tbl2 := z_at [188, 189, 190, 220, 552, 191, 192, 162, 193, 194, 553, 221, 222, 163, 224, 554, 281, 282, 165, 283, 284, 166, 285, 286, 373, 374, 555, 479, 480, 173, 481, 482, 556] (by decide +kernel)
set_option maxRecDepth 20000 in
theorem tkX11_init : Cond.code yX11_init cX11_init 1 none ∈ lw_tbl2 := List.mem_of_getElem? (i := 187) rfl
theorem wtX11_init : ∀ w ∈ wzX11_init, w ∈ lw_tbl2 := z2_cons tkX11_init (z2_app toX11_init (z2_app wtcX11 (z2_app wtcX10 (z2_app wtcX0 (z2_app wtcX7 (z2_app wtcX9 (z2_app wtcX3 (z2_app wtX10_init (z2_app wtX0_init (z2_app wtX9_init (z2_app wtX7_init (z2_app wtX3_init z2_nil))))))))))))
set_option maxRecDepth 20000 in
theorem toX11_rounds : ∀ w ∈ woX11_rounds, w ∈ lw_tbl2 := z_at [1443, 182] (by decide +kernel)
set_option maxRecDepth 20000 in
theorem tkX11_rounds : Cond.code yX11_rounds cX11_rounds 3 (some .int) ∈ lw_tbl2 := List.mem_of_getElem? (i := 1442) rfl
theorem wtX11_rounds : ∀ w ∈ wzX11_rounds, w ∈ lw_tbl2 := z2_cons tkX11_rounds (z2_app toX11_rounds (z2_app wtcZT z2_nil))
set_option maxRecDepth 20000 in
theorem toL_rounds : ∀ w ∈ woL_rounds, w ∈ lw_tbl2 := z_at [1438, 1439, 1440, 1441, 161] (by decide +kernel)
set_option maxRecDepth 20000 in
theorem tkL_rounds : Cond.codeWith yL_rounds cL_rounds 5 (some .int) [(0, 10, 13, 13)] ∈ lw_tbl2 := List.mem_of_getElem? (i := 1437) rfl
theorem wtL_rounds : ∀ w ∈ wzL_rounds, w ∈ lw_tbl2 := z2_cons tkL_rounds (z2_app toL_rounds (z2_app wtX11_rounds z2_nil))
set_option maxRecDepth 20000 in
theorem zsP0 : Cond.privateMethod yX1_arm ∈ lw_tbl := List.mem_of_getElem? (i := 945) (by decide +kernel)
set_option maxRecDepth 20000 in
theorem zsI0 : Cond.instanceMethod yX1_arm ∈ lw_tbl := List.mem_of_getElem? (i := 946) (by decide +kernel)
set_option maxRecDepth 20000 in
theorem zsP1 : Cond.privateMethod yX1_conjunction ∈ lw_tbl := List.mem_of_getElem? (i := 890) (by decide +kernel)
set_option maxRecDepth 20000 in
theorem zsI1 : Cond.instanceMethod yX1_conjunction ∈ lw_tbl := List.mem_of_getElem? (i := 891) (by decide +kernel)
set_option maxRecDepth 20000 in
theorem zsP2 : Cond.privateMethod yX1_one ∈ lw_tbl := List.mem_of_getElem? (i := 894) (by decide +kernel)
set_option maxRecDepth 20000 in
theorem zsI2 : Cond.instanceMethod yX1_one ∈ lw_tbl := List.mem_of_getElem? (i := 895) (by decide +kernel)
set_option maxRecDepth 20000 in
theorem zsP3 : Cond.privateMethod yX1_product ∈ lw_tbl := List.mem_of_getElem? (i := 915) (by decide +kernel)
set_option maxRecDepth 20000 in
theorem zsI3 : Cond.instanceMethod yX1_product ∈ lw_tbl := List.mem_of_getElem? (i := 916) (by decide +kernel)
set_option maxRecDepth 20000 in
theorem zsP4 : Cond.privateMethod yX1_loadName ∈ lw_tbl := List.mem_of_getElem? (i := 923) (by decide +kernel)
set_option maxRecDepth 20000 in
theorem zsI4 : Cond.instanceMethod yX1_loadName ∈ lw_tbl := List.mem_of_getElem? (i := 924) (by decide +kernel)
set_option maxRecDepth 20000 in
theorem zsP5 : Cond.privateMethod yX1_negated ∈ lw_tbl := List.mem_of_getElem? (i := 936) (by decide +kernel)
set_option maxRecDepth 20000 in
theorem zsI5 : Cond.instanceMethod yX1_negated ∈ lw_tbl := List.mem_of_getElem? (i := 937) (by decide +kernel)
set_option maxRecDepth 20000 in
theorem zsP6 : Cond.privateMethod yX1_choice ∈ lw_tbl := List.mem_of_getElem? (i := 940) (by decide +kernel)
set_option maxRecDepth 20000 in
theorem zsI6 : Cond.instanceMethod yX1_choice ∈ lw_tbl := List.mem_of_getElem? (i := 941) (by decide +kernel)
set_option maxRecDepth 20000 in
theorem zsP7 : Cond.privateMethod yX1_factor ∈ lw_tbl := List.mem_of_getElem? (i := 919) (by decide +kernel)
set_option maxRecDepth 20000 in
theorem zsI7 : Cond.instanceMethod yX1_factor ∈ lw_tbl := List.mem_of_getElem? (i := 920) (by decide +kernel)
set_option maxRecDepth 20000 in
theorem zsP8 : Cond.privateMethod yX1_comparison ∈ lw_tbl := List.mem_of_getElem? (i := 906) (by decide +kernel)
set_option maxRecDepth 20000 in
theorem zsI8 : Cond.instanceMethod yX1_comparison ∈ lw_tbl := List.mem_of_getElem? (i := 907) (by decide +kernel)
set_option maxRecDepth 20000 in
theorem zs0 : Cond.selects RX7 ⟨"StatementRules2$Formulas", "found", "(I)Z"⟩ ⟨"StatementRules2$Formulas", "found", "(I)Z"⟩ ∈ lw_tbl := List.mem_of_getElem? (i := 816) (by decide +kernel)
theorem lw_hts2 {args : Array Value} {s : State} (hts : ∀ w ∈ lw_tbl, w.before args s = true) : ∀ w ∈ lw_tbl2, w.before args s = true := by
  intro w hw
  rcases List.mem_append.mp hw with hw | hw
  · exact hts w hw
  · have h0 := hts _ zs0
    rcases List.mem_cons.mp hw with rfl | hw
    · exact zsel h0 rfl (by decide) (hts _ zsP0) (hts _ zsI0)
    rcases List.mem_cons.mp hw with rfl | hw
    · exact zsel h0 rfl (by decide) (hts _ zsP1) (hts _ zsI1)
    rcases List.mem_cons.mp hw with rfl | hw
    · exact zsel h0 rfl (by decide) (hts _ zsP2) (hts _ zsI2)
    rcases List.mem_cons.mp hw with rfl | hw
    · exact zsel h0 rfl (by decide) (hts _ zsP3) (hts _ zsI3)
    rcases List.mem_cons.mp hw with rfl | hw
    · exact zsel h0 rfl (by decide) (hts _ zsP4) (hts _ zsI4)
    rcases List.mem_cons.mp hw with rfl | hw
    · exact zsel h0 rfl (by decide) (hts _ zsP5) (hts _ zsI5)
    rcases List.mem_cons.mp hw with rfl | hw
    · exact zsel h0 rfl (by decide) (hts _ zsP6) (hts _ zsI6)
    rcases List.mem_cons.mp hw with rfl | hw
    · exact zsel h0 rfl (by decide) (hts _ zsP7) (hts _ zsI7)
    rcases List.mem_cons.mp hw with rfl | hw
    · exact zsel h0 rfl (by decide) (hts _ zsP8) (hts _ zsI8)
    exact absurd hw List.not_mem_nil
