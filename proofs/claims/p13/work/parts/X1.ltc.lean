set_option maxRecDepth 20000 in
theorem toX12_trace : ∀ w ∈ woX12_trace, w ∈ lw_tbl2 := z_at [1535, 1614, 1616, 1618, 1617, 1893, 1894, 174] (by decide +kernel)
set_option maxRecDepth 20000 in
theorem tkX12_trace : Cond.code yX12_trace cX12_trace 3 (some .int) ∈ lw_tbl2 := List.mem_of_getElem? (i := 2247) rfl
theorem wtX12_trace : ∀ w ∈ wzX12_trace, w ∈ lw_tbl2 := z2_cons tkX12_trace (z2_app toX12_trace (z2_app wtcX12 (z2_app wtX12_in z2_nil)))
set_option maxRecDepth 20000 in
theorem toX12_suppressed : ∀ w ∈ woX12_suppressed, w ∈ lw_tbl2 := z_at [1535, 1614, 1650, 1623, 1649, 1625, 1624, 1893, 1894, 174] (by decide +kernel)
set_option maxRecDepth 20000 in
theorem tkX12_suppressed : Cond.code yX12_suppressed cX12_suppressed 3 (some .int) ∈ lw_tbl2 := List.mem_of_getElem? (i := 2251) rfl
theorem wtX12_suppressed : ∀ w ∈ wzX12_suppressed, w ∈ lw_tbl2 := z2_cons tkX12_suppressed (z2_app toX12_suppressed (z2_app wtcX12 (z2_app wtX12_in z2_nil)))
set_option maxRecDepth 20000 in
theorem toX12_rounds : ∀ w ∈ woX12_rounds, w ∈ lw_tbl2 := z_at [1535] (by decide +kernel)
set_option maxRecDepth 20000 in
theorem tkX12_rounds : Cond.code yX12_rounds cX12_rounds 3 (some .int) ∈ lw_tbl2 := List.mem_of_getElem? (i := 2255) rfl
theorem wtX12_rounds : ∀ w ∈ wzX12_rounds, w ∈ lw_tbl2 := z2_cons tkX12_rounds (z2_app toX12_rounds (z2_app wtcX12 z2_nil))
set_option maxRecDepth 20000 in
theorem toX11_put : ∀ w ∈ woX11_put, w ∈ lw_tbl2 := z_at [] (by decide +kernel)
set_option maxRecDepth 20000 in
theorem tkX11_put : Cond.code yX11_put cX11_put 3 none ∈ lw_tbl2 := List.mem_of_getElem? (i := 590) rfl
theorem wtX11_put : ∀ w ∈ wzX11_put, w ∈ lw_tbl2 := z2_cons tkX11_put (z2_app toX11_put z2_nil)
set_option maxRecDepth 20000 in
theorem toX0_newTarget : ∀ w ∈ woX0_newTarget, w ∈ lw_tbl2 := z_at [231, 236, 161, 589] (by decide +kernel)
set_option maxRecDepth 20000 in
theorem tkX0_newTarget : Cond.code yX0_newTarget cX0_newTarget 1 (some .int) ∈ lw_tbl2 := List.mem_of_getElem? (i := 834) rfl
theorem wtX0_newTarget : ∀ w ∈ wzX0_newTarget, w ∈ lw_tbl2 := z2_cons tkX0_newTarget (z2_app toX0_newTarget (z2_app wtcX0 (z2_app wtX11_put z2_nil)))
set_option maxRecDepth 20000 in
theorem toX1_found : ∀ w ∈ woX1_found, w ∈ lw_tbl2 := z_at [434] (by decide +kernel)
set_option maxRecDepth 20000 in
theorem tkX1_found : Cond.code yX1_found cX1_found 2 (some .boolean) ∈ lw_tbl2 := List.mem_of_getElem? (i := 817) rfl
theorem wtX1_found : ∀ w ∈ wzX1_found, w ∈ lw_tbl2 := z2_cons tkX1_found (z2_app toX1_found (z2_app wtcX7 (z2_app wtcX9 z2_nil)))
set_option maxRecDepth 20000 in
theorem toX9_byteAt : ∀ w ∈ woX9_byteAt, w ∈ lw_tbl2 := z_at [340, 338] (by decide +kernel)
set_option maxRecDepth 20000 in
theorem tkX9_byteAt : Cond.code yX9_byteAt cX9_byteAt 2 (some .int) ∈ lw_tbl2 := List.mem_of_getElem? (i := 665) rfl
theorem wtX9_byteAt : ∀ w ∈ wzX9_byteAt, w ∈ lw_tbl2 := z2_cons tkX9_byteAt (z2_app toX9_byteAt (z2_app wtcX9 z2_nil))
set_option maxRecDepth 20000 in
theorem toX9_isDigit : ∀ w ∈ woX9_isDigit, w ∈ lw_tbl2 := z_at [] (by decide +kernel)
set_option maxRecDepth 20000 in
theorem tkX9_isDigit : Cond.code yX9_isDigit cX9_isDigit 1 (some .boolean) ∈ lw_tbl2 := List.mem_of_getElem? (i := 668) rfl
theorem wtX9_isDigit : ∀ w ∈ wzX9_isDigit, w ∈ lw_tbl2 := z2_cons tkX9_isDigit (z2_app toX9_isDigit z2_nil)
set_option maxRecDepth 20000 in
theorem toX9_isLetter : ∀ w ∈ woX9_isLetter, w ∈ lw_tbl2 := z_at [] (by decide +kernel)
set_option maxRecDepth 20000 in
theorem tkX9_isLetter : Cond.code yX9_isLetter cX9_isLetter 1 (some .boolean) ∈ lw_tbl2 := List.mem_of_getElem? (i := 675) rfl
theorem wtX9_isLetter : ∀ w ∈ wzX9_isLetter, w ∈ lw_tbl2 := z2_cons tkX9_isLetter (z2_app toX9_isLetter z2_nil)
set_option maxRecDepth 20000 in
theorem toX9_longSign : ∀ w ∈ woX9_longSign, w ∈ lw_tbl2 := z_at [] (by decide +kernel)
set_option maxRecDepth 20000 in
theorem tkX9_longSign : Cond.code yX9_longSign cX9_longSign 2 (some .int) ∈ lw_tbl2 := List.mem_of_getElem? (i := 697) rfl
theorem wtX9_longSign : ∀ w ∈ wzX9_longSign, w ∈ lw_tbl2 := z2_cons tkX9_longSign (z2_app toX9_longSign z2_nil)
set_option maxRecDepth 20000 in
theorem toX9_isSign : ∀ w ∈ woX9_isSign, w ∈ lw_tbl2 := z_at [] (by decide +kernel)
set_option maxRecDepth 20000 in
theorem tkX9_isSign : Cond.code yX9_isSign cX9_isSign 1 (some .boolean) ∈ lw_tbl2 := List.mem_of_getElem? (i := 700) rfl
theorem wtX9_isSign : ∀ w ∈ wzX9_isSign, w ∈ lw_tbl2 := z2_cons tkX9_isSign (z2_app toX9_isSign z2_nil)
set_option maxRecDepth 20000 in
theorem toX9_takeSign : ∀ w ∈ woX9_takeSign, w ∈ lw_tbl2 := z_at [341, 342, 662, 664, 2, 166, 695, 696, 698, 699] (by decide +kernel)
set_option maxRecDepth 20000 in
theorem tkX9_takeSign : Cond.code yX9_takeSign cX9_takeSign 2 none ∈ lw_tbl2 := List.mem_of_getElem? (i := 694) rfl
theorem wtX9_takeSign : ∀ w ∈ wzX9_takeSign, w ∈ lw_tbl2 := z2_cons tkX9_takeSign (z2_app toX9_takeSign (z2_app wtcX9 (z2_app wtX9_byteAt (z2_app wtX9_longSign (z2_app wtX9_isSign z2_nil)))))
set_option maxRecDepth 20000 in
theorem toX9_rowType : ∀ w ∈ woX9_rowType, w ∈ lw_tbl2 := z_at [352, 684, 685, 348, 688, 689, 690, 686, 687, 339] (by decide +kernel)
set_option maxRecDepth 20000 in
theorem tkX9_rowType : Cond.code yX9_rowType cX9_rowType 8 (some .int) ∈ lw_tbl2 := List.mem_of_getElem? (i := 683) rfl
theorem wtX9_rowType : ∀ w ∈ wzX9_rowType, w ∈ lw_tbl2 := z2_cons tkX9_rowType (z2_app toX9_rowType (z2_app wtcX9 z2_nil))
set_option maxRecDepth 20000 in
theorem toX9_takeRow : ∀ w ∈ woX9_takeRow, w ∈ lw_tbl2 := z_at [352, 341, 346, 342, 680, 682, 5, 166, 662, 664, 2, 666, 667, 673, 674] (by decide +kernel)
set_option maxRecDepth 20000 in
theorem tkX9_takeRow : Cond.code yX9_takeRow cX9_takeRow 2 none ∈ lw_tbl2 := List.mem_of_getElem? (i := 679) rfl
theorem wtX9_takeRow : ∀ w ∈ wzX9_takeRow, w ∈ lw_tbl2 := z2_cons tkX9_takeRow (z2_app toX9_takeRow (z2_app wtcX9 (z2_app wtX9_rowType (z2_app wtX9_byteAt (z2_app wtX9_isDigit (z2_app wtX9_isLetter z2_nil))))))
set_option maxRecDepth 20000 in
theorem toX9_takeNumber : ∀ w ∈ woX9_takeNumber, w ∈ lw_tbl2 := z_at [348, 341, 346, 342, 662, 664, 2, 166, 666, 667] (by decide +kernel)
set_option maxRecDepth 20000 in
theorem tkX9_takeNumber : Cond.code yX9_takeNumber cX9_takeNumber 2 none ∈ lw_tbl2 := List.mem_of_getElem? (i := 672) rfl
theorem wtX9_takeNumber : ∀ w ∈ wzX9_takeNumber, w ∈ lw_tbl2 := z2_cons tkX9_takeNumber (z2_app toX9_takeNumber (z2_app wtcX9 (z2_app wtX9_byteAt (z2_app wtX9_isDigit z2_nil))))
set_option maxRecDepth 20000 in
theorem toX9_advance : ∀ w ∈ woX9_advance, w ∈ lw_tbl2 := z_at [341, 346, 340, 342, 662, 664, 2, 166, 666, 667, 673, 674, 691, 693, 6, 676, 678, 4, 669, 671, 3] (by decide +kernel)
set_option maxRecDepth 20000 in
theorem tkX9_advance : Cond.code yX9_advance cX9_advance 2 none ∈ lw_tbl2 := List.mem_of_getElem? (i := 661) rfl
theorem wtX9_advance : ∀ w ∈ wzX9_advance, w ∈ lw_tbl2 := z2_cons tkX9_advance (z2_app toX9_advance (z2_app wtcX9 (z2_app wtX9_byteAt (z2_app wtX9_isDigit (z2_app wtX9_isLetter (z2_app wtX9_takeSign (z2_app wtX9_takeRow (z2_app wtX9_takeNumber z2_nil))))))))
set_option maxRecDepth 20000 in
theorem toX1_skip : ∀ w ∈ woX1_skip, w ∈ lw_tbl2 := z_at [434, 813, 815, 816, 814, 164, 818, 659, 660, 166] (by decide +kernel)
set_option maxRecDepth 20000 in
theorem tkX1_skip : Cond.code yX1_skip cX1_skip 3 (some .boolean) ∈ lw_tbl2 := List.mem_of_getElem? (i := 812) rfl
theorem wtX1_skip : ∀ w ∈ wzX1_skip, w ∈ lw_tbl2 := z2_cons tkX1_skip (z2_app toX1_skip (z2_app wtcX7 (z2_app wtX1_found (z2_app wtX9_advance z2_nil))))
set_option maxRecDepth 20000 in
theorem toX11_at : ∀ w ∈ woX11_at, w ∈ lw_tbl2 := z_at [] (by decide +kernel)
set_option maxRecDepth 20000 in
theorem tkX11_at : Cond.code yX11_at cX11_at 2 (some .int) ∈ lw_tbl2 := List.mem_of_getElem? (i := 845) rfl
theorem wtX11_at : ∀ w ∈ wzX11_at, w ∈ lw_tbl2 := z2_cons tkX11_at (z2_app toX11_at z2_nil)
set_option maxRecDepth 20000 in
theorem toX0_hasCase : ∀ w ∈ woX0_hasCase, w ∈ lw_tbl2 := z_at [237, 233, 161, 844] (by decide +kernel)
set_option maxRecDepth 20000 in
theorem tkX0_hasCase : Cond.code yX0_hasCase cX0_hasCase 4 (some .boolean) ∈ lw_tbl2 := List.mem_of_getElem? (i := 957) rfl
theorem wtX0_hasCase : ∀ w ∈ wzX0_hasCase, w ∈ lw_tbl2 := z2_cons tkX0_hasCase (z2_app toX0_hasCase (z2_app wtcX0 (z2_app wtX11_at z2_nil)))
set_option maxRecDepth 20000 in
theorem toX0_addCase : ∀ w ∈ woX0_addCase, w ∈ lw_tbl2 := z_at [233, 237, 161, 589, 234] (by decide +kernel)
set_option maxRecDepth 20000 in
theorem tkX0_addCase : Cond.code yX0_addCase cX0_addCase 3 none ∈ lw_tbl2 := List.mem_of_getElem? (i := 962) rfl
theorem wtX0_addCase : ∀ w ∈ wzX0_addCase, w ∈ lw_tbl2 := z2_cons tkX0_addCase (z2_app toX0_addCase (z2_app wtcX0 (z2_app wtX11_put z2_nil)))
set_option maxRecDepth 20000 in
theorem toX9_stop : ∀ w ∈ woX9_stop, w ∈ lw_tbl2 := z_at [340, 341, 342] (by decide +kernel)
set_option maxRecDepth 20000 in
theorem tkX9_stop : Cond.code yX9_stop cX9_stop 1 none ∈ lw_tbl2 := List.mem_of_getElem? (i := 872) rfl
theorem wtX9_stop : ∀ w ∈ wzX9_stop, w ∈ lw_tbl2 := z2_cons tkX9_stop (z2_app toX9_stop (z2_app wtcX9 z2_nil))
set_option maxRecDepth 20000 in
theorem toX1_fail : ∀ w ∈ woX1_fail, w ∈ lw_tbl2 := z_at [448, 451, 434, 869, 870, 871, 166] (by decide +kernel)
set_option maxRecDepth 20000 in
theorem tkX1_fail : Cond.code yX1_fail cX1_fail 3 none ∈ lw_tbl2 := List.mem_of_getElem? (i := 868) rfl
theorem wtX1_fail : ∀ w ∈ wzX1_fail, w ∈ lw_tbl2 := z2_cons tkX1_fail (z2_app toX1_fail (z2_app wtcX7 (z2_app wtX9_stop z2_nil)))
set_option maxRecDepth 20000 in
theorem toX1_misplaced : ∀ w ∈ woX1_misplaced, w ∈ lw_tbl2 := z_at [434, 813, 815, 816, 814, 164, 864, 866, 867, 865] (by decide +kernel)
set_option maxRecDepth 20000 in
theorem tkX1_misplaced : Cond.code yX1_misplaced cX1_misplaced 1 none ∈ lw_tbl2 := List.mem_of_getElem? (i := 863) rfl
theorem wtX1_misplaced : ∀ w ∈ wzX1_misplaced, w ∈ lw_tbl2 := z2_cons tkX1_misplaced (z2_app toX1_misplaced (z2_app wtcX7 (z2_app wtcX9 (z2_app wtX1_found (z2_app wtX1_fail z2_nil)))))
set_option maxRecDepth 20000 in
theorem toX1_caseNumber : ∀ w ∈ woX1_caseNumber, w ∈ lw_tbl2 := z_at [434, 437, 953, 2269, 2270, 811, 164, 813, 815, 816, 814, 954, 955, 956, 163, 959, 960, 961, 818, 659, 660, 166, 864, 866, 867, 865, 859, 861, 862, 860] (by decide +kernel)
set_option maxRecDepth 20000 in
theorem tkX1_caseNumber : Cond.code yX1_caseNumber cX1_caseNumber 5 none ∈ lw_tbl2 := List.mem_of_getElem? (i := 952) rfl
theorem wtX1_caseNumber : ∀ w ∈ wzX1_caseNumber, w ∈ lw_tbl2 := z2_cons tkX1_caseNumber (z2_app toX1_caseNumber (z2_app wtcX7 (z2_app wtcX9 (z2_app wtX1_skip (z2_app wtX1_found (z2_app wtX0_hasCase (z2_app wtX0_addCase (z2_app wtX9_advance (z2_app wtX1_fail (z2_app wtX1_misplaced z2_nil))))))))))
set_option maxRecDepth 20000 in
theorem toX1_expect : ∀ w ∈ woX1_expect, w ∈ lw_tbl2 := z_at [434, 813, 815, 816, 814, 164, 859, 861, 862, 860, 818, 659, 660, 166] (by decide +kernel)
set_option maxRecDepth 20000 in
theorem tkX1_expect : Cond.code yX1_expect cX1_expect 2 none ∈ lw_tbl2 := List.mem_of_getElem? (i := 858) rfl
theorem wtX1_expect : ∀ w ∈ wzX1_expect, w ∈ lw_tbl2 := z2_cons tkX1_expect (z2_app toX1_expect (z2_app wtcX7 (z2_app wtX1_found (z2_app wtX1_misplaced (z2_app wtX9_advance z2_nil)))))
set_option maxRecDepth 20000 in
theorem toX0_aim : ∀ w ∈ woX0_aim, w ∈ lw_tbl2 := z_at [231, 235, 161, 589] (by decide +kernel)
set_option maxRecDepth 20000 in
theorem tkX0_aim : Cond.code yX0_aim cX0_aim 2 none ∈ lw_tbl2 := List.mem_of_getElem? (i := 822) rfl
theorem wtX0_aim : ∀ w ∈ wzX0_aim, w ∈ lw_tbl2 := z2_cons tkX0_aim (z2_app toX0_aim (z2_app wtcX0 (z2_app wtX11_put z2_nil)))
set_option maxRecDepth 20000 in
theorem toX0_add : ∀ w ∈ woX0_add, w ∈ lw_tbl2 := z_at [227, 235, 161, 589, 229] (by decide +kernel)
set_option maxRecDepth 20000 in
theorem tkX0_add : Cond.code yX0_add cX0_add 3 none ∈ lw_tbl2 := List.mem_of_getElem? (i := 838) rfl
theorem wtX0_add : ∀ w ∈ wzX0_add, w ∈ lw_tbl2 := z2_cons tkX0_add (z2_app toX0_add (z2_app wtcX0 (z2_app wtX11_put z2_nil)))
set_option maxRecDepth 20000 in
theorem toX1_open : ∀ w ∈ woX1_open, w ∈ lw_tbl2 := z_at [455, 434, 813, 815, 816, 814, 164, 818, 659, 660, 166, 864, 866, 867, 865, 859, 861, 862, 860] (by decide +kernel)
set_option maxRecDepth 20000 in
theorem tkX1_open : Cond.code yX1_open cX1_open 2 none ∈ lw_tbl2 := List.mem_of_getElem? (i := 882) rfl
theorem wtX1_open : ∀ w ∈ wzX1_open, w ∈ lw_tbl2 := z2_cons tkX1_open (z2_app toX1_open (z2_app wtcX7 (z2_app wtcX9 (z2_app wtX1_found (z2_app wtX9_advance (z2_app wtX1_fail (z2_app wtX1_misplaced z2_nil)))))))
set_option maxRecDepth 20000 in
theorem toX1_close : ∀ w ∈ woX1_close, w ∈ lw_tbl2 := z_at [455, 434, 813, 815, 816, 814, 164, 859, 861, 862, 860, 818, 659, 660, 166] (by decide +kernel)
set_option maxRecDepth 20000 in
theorem tkX1_close : Cond.code yX1_close cX1_close 2 none ∈ lw_tbl2 := List.mem_of_getElem? (i := 904) rfl
theorem wtX1_close : ∀ w ∈ wzX1_close, w ∈ lw_tbl2 := z2_cons tkX1_close (z2_app toX1_close (z2_app wtcX7 (z2_app wtX1_found (z2_app wtX1_misplaced (z2_app wtX9_advance z2_nil)))))
set_option maxRecDepth 20000 in
theorem toX0_addCases : ∀ w ∈ woX0_addCases, w ∈ lw_tbl2 := z_at [237, 233, 161, 844, 234, 975, 836, 837, 163] (by decide +kernel)
set_option maxRecDepth 20000 in
theorem tkX0_addCases : Cond.code yX0_addCases cX0_addCases 4 none ∈ lw_tbl2 := List.mem_of_getElem? (i := 974) rfl
theorem wtX0_addCases : ∀ w ∈ wzX0_addCases, w ∈ lw_tbl2 := z2_cons tkX0_addCases (z2_app toX0_addCases (z2_app wtcX0 (z2_app wtX0_add (z2_app wtX11_at z2_nil))))
set_option maxRecDepth 20000 in
theorem toX1_comparing : ∀ w ∈ woX1_comparing, w ∈ lw_tbl2 := z_at [] (by decide +kernel)
set_option maxRecDepth 20000 in
theorem tkX1_comparing : Cond.code yX1_comparing cX1_comparing 1 (some .int) ∈ lw_tbl2 := List.mem_of_getElem? (i := 978) rfl
theorem wtX1_comparing : ∀ w ∈ wzX1_comparing, w ∈ lw_tbl2 := z2_cons tkX1_comparing (z2_app toX1_comparing z2_nil)
set_option maxRecDepth 20000 in
theorem toX4_find : ∀ w ∈ woX4_find, w ∈ lw_tbl2 := z_at [389, 386] (by decide +kernel)
set_option maxRecDepth 20000 in
theorem tkX4_find : Cond.code yX4_find cX4_find 4 (some .int) ∈ lw_tbl2 := List.mem_of_getElem? (i := 929) rfl
theorem wtX4_find : ∀ w ∈ wzX4_find, w ∈ lw_tbl2 := z2_cons tkX4_find (z2_app toX4_find (z2_app wtcX4 z2_nil))
set_option maxRecDepth 20000 in
theorem toX4_cellOf : ∀ w ∈ woX4_cellOf, w ∈ lw_tbl2 := z_at [387, 161, 844] (by decide +kernel)
set_option maxRecDepth 20000 in
theorem tkX4_cellOf : Cond.code yX4_cellOf cX4_cellOf 2 (some .int) ∈ lw_tbl2 := List.mem_of_getElem? (i := 933) rfl
theorem wtX4_cellOf : ∀ w ∈ wzX4_cellOf, w ∈ lw_tbl2 := z2_cons tkX4_cellOf (z2_app toX4_cellOf (z2_app wtcX4 (z2_app wtX11_at z2_nil)))
set_option maxRecDepth 20000 in
theorem toX1_loadName : ∀ w ∈ woX1_loadName, w ∈ lw_tbl2 := z_at [443, 434, 437, 926, 927, 928, 171, 930, 931, 932, 898, 836, 837, 163, 818, 659, 660, 166, 864, 866, 867, 865, 164] (by decide +kernel)
set_option maxRecDepth 20000 in
theorem tkX1_loadName : Cond.code yX1_loadName cX1_loadName 2 none ∈ lw_tbl2 := List.mem_of_getElem? (i := 925) rfl
theorem wtX1_loadName : ∀ w ∈ wzX1_loadName, w ∈ lw_tbl2 := z2_cons tkX1_loadName (z2_app toX1_loadName (z2_app wtcX7 (z2_app wtcX9 (z2_app wtX4_find (z2_app wtX4_cellOf (z2_app wtX0_add (z2_app wtX9_advance (z2_app wtX1_fail z2_nil))))))))
set_option maxRecDepth 20000 in
theorem toX5_init : ∀ w ∈ woX5_init, w ∈ lw_tbl2 := z_at [712, 189, 190] (by decide +kernel)
set_option maxRecDepth 20000 in
theorem tkX5_init : Cond.code yX5_init cX5_init 1 none ∈ lw_tbl2 := List.mem_of_getElem? (i := 711) rfl
theorem wtX5_init : ∀ w ∈ wzX5_init, w ∈ lw_tbl2 := z2_cons tkX5_init (z2_app toX5_init z2_nil)
set_option maxRecDepth 20000 in
theorem toX6_push : ∀ w ∈ woX6_push, w ∈ lw_tbl2 := z_at [410, 408, 705, 706, 175, 707, 406, 708, 176, 710, 412, 413] (by decide +kernel)
set_option maxRecDepth 20000 in
theorem tkX6_push : Cond.code yX6_push cX6_push 6 (some (.object "StatementRules2$Open")) ∈ lw_tbl2 := List.mem_of_getElem? (i := 704) rfl
theorem wtX6_push : ∀ w ∈ wzX6_push, w ∈ lw_tbl2 := z2_cons tkX6_push (z2_app toX6_push (z2_app wtcX6 (z2_app wtcX5 (z2_app wtX5_init z2_nil))))
set_option maxRecDepth 20000 in
theorem toX7_newName : ∀ w ∈ woX7_newName, w ∈ lw_tbl2 := z_at [435, 436, 444, 445, 991, 992, 994, 814, 164, 1004, 927, 928, 171, 999, 659, 660, 166, 1009, 1010, 1012, 865, 1013, 1014, 1016, 860] (by decide +kernel)
set_option maxRecDepth 20000 in
theorem tkX7_newName : Cond.code yX7_newName cX7_newName 3 (some .long) ∈ lw_tbl2 := List.mem_of_getElem? (i := 1034) rfl
theorem wtX7_newName : ∀ w ∈ wzX7_newName, w ∈ lw_tbl2 := z2_cons tkX7_newName (z2_app toX7_newName (z2_app wtcX7 (z2_app wtcX9 (z2_app wtX1_found (z2_app wtX4_find (z2_app wtX9_advance (z2_app wtX1_fail (z2_app wtX1_misplaced z2_nil))))))))
set_option maxRecDepth 20000 in
theorem toX7_pushLoop : ∀ w ∈ woX7_pushLoop, w ∈ lw_tbl2 := z_at [430, 433, 444, 445, 701, 702, 703, 172] (by decide +kernel)
set_option maxRecDepth 20000 in
theorem tkX7_pushLoop : Cond.code yX7_pushLoop cX7_pushLoop 5 (some (.object "StatementRules2$Open")) ∈ lw_tbl2 := List.mem_of_getElem? (i := 1105) rfl
theorem wtX7_pushLoop : ∀ w ∈ wzX7_pushLoop, w ∈ lw_tbl2 := z2_cons tkX7_pushLoop (z2_app toX7_pushLoop (z2_app wtcX7 (z2_app wtcX4 (z2_app wtcX5 (z2_app wtX6_push z2_nil)))))
set_option maxRecDepth 20000 in
theorem toX4_isCaught : ∀ w ∈ woX4_isCaught, w ∈ lw_tbl2 := z_at [388, 161, 844] (by decide +kernel)
set_option maxRecDepth 20000 in
theorem tkX4_isCaught : Cond.code yX4_isCaught cX4_isCaught 2 (some .boolean) ∈ lw_tbl2 := List.mem_of_getElem? (i := 1008) rfl
theorem wtX4_isCaught : ∀ w ∈ wzX4_isCaught, w ∈ lw_tbl2 := z2_cons tkX4_isCaught (z2_app toX4_isCaught (z2_app wtcX4 (z2_app wtX11_at z2_nil)))
set_option maxRecDepth 20000 in
theorem toX7_beginDo : ∀ w ∈ woX7_beginDo, w ∈ lw_tbl2 := z_at [438, 439, 435, 436, 831, 832, 833, 163, 1102, 1104, 31, 165, 999, 659, 660, 166, 819, 820, 821, 835, 836, 837] (by decide +kernel)
set_option maxRecDepth 20000 in
theorem tkX7_beginDo : Cond.code yX7_beginDo cX7_beginDo 2 none ∈ lw_tbl2 := List.mem_of_getElem? (i := 1109) rfl
theorem wtX7_beginDo : ∀ w ∈ wzX7_beginDo, w ∈ lw_tbl2 := z2_cons tkX7_beginDo (z2_app toX7_beginDo (z2_app wtcX7 (z2_app wtcX5 (z2_app wtX0_newTarget (z2_app wtX7_pushLoop (z2_app wtX9_advance (z2_app wtX0_aim (z2_app wtX0_add z2_nil))))))))
set_option maxRecDepth 20000 in
theorem toX7_throwNull : ∀ w ∈ woX7_throwNull, w ∈ lw_tbl2 := z_at [438, 439, 835, 836, 837, 163] (by decide +kernel)
set_option maxRecDepth 20000 in
theorem tkX7_throwNull : Cond.code yX7_throwNull cX7_throwNull 1 none ∈ lw_tbl2 := List.mem_of_getElem? (i := 1125) rfl
theorem wtX7_throwNull : ∀ w ∈ wzX7_throwNull, w ∈ lw_tbl2 := z2_cons tkX7_throwNull (z2_app toX7_throwNull (z2_app wtcX7 (z2_app wtX0_add z2_nil)))
set_option maxRecDepth 20000 in
theorem toX7_beginLock : ∀ w ∈ woX7_beginLock, w ∈ lw_tbl2 := z_at [435, 436, 430, 433, 444, 445, 438, 439, 999, 659, 660, 166, 877, 878, 880, 881, 164, 991, 992, 994, 814, 853, 854, 856, 857, 1122, 1124, 36, 165, 979, 980, 982, 901, 701, 702, 703, 172, 831, 832, 833, 163, 835, 836, 837] (by decide +kernel)
set_option maxRecDepth 20000 in
theorem tkX7_beginLock : Cond.code yX7_beginLock cX7_beginLock 2 none ∈ lw_tbl2 := List.mem_of_getElem? (i := 1137) rfl
theorem wtX7_beginLock : ∀ w ∈ wzX7_beginLock, w ∈ lw_tbl2 := z2_cons tkX7_beginLock (z2_app toX7_beginLock (z2_app wtcX7 (z2_app wtcX4 (z2_app wtcX5 (z2_app wtcX9 (z2_app wtX9_advance (z2_app wtX1_open (z2_app wtX1_found (z2_app wtX1_expect (z2_app wtX7_throwNull (z2_app wtX1_close (z2_app wtX6_push (z2_app wtX0_newTarget (z2_app wtX0_add z2_nil))))))))))))))
set_option maxRecDepth 20000 in
theorem toX7_openResource : ∀ w ∈ woX7_openResource, w ∈ lw_tbl2 := z_at [438, 439, 435, 436, 991, 992, 994, 814, 164, 835, 836, 837, 163, 999, 659, 660, 166, 1013, 1014, 1016, 860] (by decide +kernel)
set_option maxRecDepth 20000 in
theorem tkX7_openResource : Cond.code yX7_openResource cX7_openResource 1 none ∈ lw_tbl2 := List.mem_of_getElem? (i := 1149) rfl
theorem wtX7_openResource : ∀ w ∈ wzX7_openResource, w ∈ lw_tbl2 := z2_cons tkX7_openResource (z2_app toX7_openResource (z2_app wtcX7 (z2_app wtcX9 (z2_app wtX1_found (z2_app wtX0_add (z2_app wtX9_advance (z2_app wtX1_misplaced z2_nil)))))))
set_option maxRecDepth 20000 in
theorem toX7_beginTry : ∀ w ∈ woX7_beginTry, w ∈ lw_tbl2 := z_at [430, 433, 444, 445, 438, 439, 435, 436, 701, 702, 703, 172, 831, 832, 833, 163, 999, 659, 660, 166, 835, 836, 837, 807, 808, 810, 811, 164, 877, 878, 880, 881, 1146, 1148, 42, 165] (by decide +kernel)
set_option maxRecDepth 20000 in
theorem tkX7_beginTry : Cond.code yX7_beginTry cX7_beginTry 3 none ∈ lw_tbl2 := List.mem_of_getElem? (i := 1145) rfl
theorem wtX7_beginTry : ∀ w ∈ wzX7_beginTry, w ∈ lw_tbl2 := z2_cons tkX7_beginTry (z2_app toX7_beginTry (z2_app wtcX7 (z2_app wtcX4 (z2_app wtcX5 (z2_app wtX6_push (z2_app wtX0_newTarget (z2_app wtX9_advance (z2_app wtX0_add (z2_app wtX1_skip (z2_app wtX1_open (z2_app wtX7_openResource z2_nil)))))))))))
set_option maxRecDepth 20000 in
theorem toX0_newCells : ∀ w ∈ woX0_newCells, w ∈ lw_tbl2 := z_at [241] (by decide +kernel)
set_option maxRecDepth 20000 in
theorem tkX0_newCells : Cond.code yX0_newCells cX0_newCells 2 (some .int) ∈ lw_tbl2 := List.mem_of_getElem? (i := 644) rfl
theorem wtX0_newCells : ∀ w ∈ wzX0_newCells, w ∈ lw_tbl2 := z2_cons tkX0_newCells (z2_app toX0_newCells (z2_app wtcX0 z2_nil))
set_option maxRecDepth 20000 in
theorem toX4_add : ∀ w ∈ woX4_add, w ∈ lw_tbl2 := z_at [389, 386, 387, 388] (by decide +kernel)
set_option maxRecDepth 20000 in
theorem tkX4_add : Cond.code yX4_add cX4_add 5 none ∈ lw_tbl2 := List.mem_of_getElem? (i := 648) rfl
theorem wtX4_add : ∀ w ∈ wzX4_add, w ∈ lw_tbl2 := z2_cons tkX4_add (z2_app toX4_add (z2_app wtcX4 z2_nil))
set_option maxRecDepth 20000 in
theorem toX7_tell : ∀ w ∈ woX7_tell, w ∈ lw_tbl2 := z_at [438, 439, 444, 445, 641, 642, 643, 163, 645, 646, 647, 171] (by decide +kernel)
set_option maxRecDepth 20000 in
theorem tkX7_tell : Cond.code yX7_tell cX7_tell 4 (some .int) ∈ lw_tbl2 := List.mem_of_getElem? (i := 1042) rfl
theorem wtX7_tell : ∀ w ∈ wzX7_tell, w ∈ lw_tbl2 := z2_cons tkX7_tell (z2_app toX7_tell (z2_app wtcX7 (z2_app wtcX0 (z2_app wtX0_newCells (z2_app wtX4_add z2_nil)))))
set_option maxRecDepth 20000 in
theorem toX6_pop : ∀ w ∈ woX6_pop, w ∈ lw_tbl2 := z_at [410, 828, 829, 175, 830] (by decide +kernel)
set_option maxRecDepth 20000 in
theorem tkX6_pop : Cond.code yX6_pop cX6_pop 1 none ∈ lw_tbl2 := List.mem_of_getElem? (i := 827) rfl
theorem wtX6_pop : ∀ w ∈ wzX6_pop, w ∈ lw_tbl2 := z2_cons tkX6_pop (z2_app toX6_pop (z2_app wtcX6 z2_nil))
set_option maxRecDepth 20000 in
theorem toX7_endIf : ∀ w ∈ woX7_endIf, w ∈ lw_tbl2 := z_at [431, 438, 439, 430, 807, 808, 810, 811, 164, 831, 832, 833, 163, 835, 836, 837, 819, 820, 821, 824, 825, 826, 172] (by decide +kernel)
set_option maxRecDepth 20000 in
theorem tkX7_endIf : Cond.code yX7_endIf cX7_endIf 2 none ∈ lw_tbl2 := List.mem_of_getElem? (i := 806) rfl
theorem wtX7_endIf : ∀ w ∈ wzX7_endIf, w ∈ lw_tbl2 := z2_cons tkX7_endIf (z2_app toX7_endIf (z2_app wtcX5 (z2_app wtcX7 (z2_app wtX1_skip (z2_app wtX0_newTarget (z2_app wtX0_add (z2_app wtX0_aim (z2_app wtX6_pop z2_nil))))))))
set_option maxRecDepth 20000 in
theorem toX6_jumpTo : ∀ w ∈ woX6_jumpTo, w ∈ lw_tbl2 := z_at [] (by decide +kernel)
set_option maxRecDepth 20000 in
theorem tkX6_jumpTo : Cond.code yX6_jumpTo cX6_jumpTo 2 (some .int) ∈ lw_tbl2 := List.mem_of_getElem? (i := 848) rfl
theorem wtX6_jumpTo : ∀ w ∈ wzX6_jumpTo, w ∈ lw_tbl2 := z2_cons tkX6_jumpTo (z2_app toX6_jumpTo (z2_app wtcX5 z2_nil))
set_option maxRecDepth 20000 in
theorem toX6_isGoneTo : ∀ w ∈ woX6_isGoneTo, w ∈ lw_tbl2 := z_at [413, 409, 161, 844, 846, 847, 172] (by decide +kernel)
set_option maxRecDepth 20000 in
theorem tkX6_isGoneTo : Cond.code yX6_isGoneTo cX6_isGoneTo 4 (some .boolean) ∈ lw_tbl2 := List.mem_of_getElem? (i := 842) rfl
theorem wtX6_isGoneTo : ∀ w ∈ wzX6_isGoneTo, w ∈ lw_tbl2 := z2_cons tkX6_isGoneTo (z2_app toX6_isGoneTo (z2_app wtcX5 (z2_app wtcX6 (z2_app wtX11_at (z2_app wtX6_jumpTo z2_nil)))))
set_option maxRecDepth 20000 in
theorem toX6_row : ∀ w ∈ woX6_row, w ∈ lw_tbl2 := z_at [410, 408] (by decide +kernel)
set_option maxRecDepth 20000 in
theorem tkX6_row : Cond.code yX6_row cX6_row 2 (some (.object "StatementRules2$Open")) ∈ lw_tbl2 := List.mem_of_getElem? (i := 786) rfl
theorem wtX6_row : ∀ w ∈ wzX6_row, w ∈ lw_tbl2 := z2_cons tkX6_row (z2_app toX6_row (z2_app wtcX6 z2_nil))
set_option maxRecDepth 20000 in
theorem toX6_labelled : ∀ w ∈ woX6_labelled, w ∈ lw_tbl2 := z_at [410, 415, 1026, 784, 785, 172] (by decide +kernel)
set_option maxRecDepth 20000 in
theorem tkX6_labelled : Cond.code yX6_labelled cX6_labelled 5 (some .int) ∈ lw_tbl2 := List.mem_of_getElem? (i := 1025) rfl
theorem wtX6_labelled : ∀ w ∈ wzX6_labelled, w ∈ lw_tbl2 := z2_cons tkX6_labelled (z2_app toX6_labelled (z2_app wtcX6 (z2_app wtcX5 (z2_app wtX6_row z2_nil))))
set_option maxRecDepth 20000 in
theorem toX5_isLoop : ∀ w ∈ woX5_isLoop, w ∈ lw_tbl2 := z_at [713] (by decide +kernel)
set_option maxRecDepth 20000 in
theorem tkX5_isLoop : Cond.code yX5_isLoop cX5_isLoop 1 (some .boolean) ∈ lw_tbl2 := List.mem_of_getElem? (i := 794) rfl
theorem wtX5_isLoop : ∀ w ∈ wzX5_isLoop, w ∈ lw_tbl2 := z2_cons tkX5_isLoop (z2_app toX5_isLoop (z2_app wtcX5 z2_nil))
set_option maxRecDepth 20000 in
theorem toX6_nearest : ∀ w ∈ woX6_nearest, w ∈ lw_tbl2 := z_at [410, 415, 1026, 784, 785, 172, 1055, 792, 793, 176] (by decide +kernel)
set_option maxRecDepth 20000 in
theorem tkX6_nearest : Cond.code yX6_nearest cX6_nearest 4 (some .int) ∈ lw_tbl2 := List.mem_of_getElem? (i := 1059) rfl
theorem wtX6_nearest : ∀ w ∈ wzX6_nearest, w ∈ lw_tbl2 := z2_cons tkX6_nearest (z2_app toX6_nearest (z2_app wtcX6 (z2_app wtcX5 (z2_app wtX6_row (z2_app wtX5_isLoop z2_nil)))))
set_option maxRecDepth 20000 in
theorem toX6_addJump : ∀ w ∈ woX6_addJump, w ∈ lw_tbl2 := z_at [409, 413, 161, 589, 846, 847, 172] (by decide +kernel)
set_option maxRecDepth 20000 in
theorem tkX6_addJump : Cond.code yX6_addJump cX6_addJump 3 none ∈ lw_tbl2 := List.mem_of_getElem? (i := 1063) rfl
theorem wtX6_addJump : ∀ w ∈ wzX6_addJump, w ∈ lw_tbl2 := z2_cons tkX6_addJump (z2_app toX6_addJump (z2_app wtcX6 (z2_app wtX6_jumpTo (z2_app wtX11_put z2_nil))))
set_option maxRecDepth 20000 in
theorem toX7_leave : ∀ w ∈ woX7_leave, w ∈ lw_tbl2 := z_at [433, 438, 439, 835, 836, 837, 163] (by decide +kernel)
set_option maxRecDepth 20000 in
theorem tkX7_leave : Cond.code yX7_leave cX7_leave 3 none ∈ lw_tbl2 := List.mem_of_getElem? (i := 1068) rfl
theorem wtX7_leave : ∀ w ∈ wzX7_leave, w ∈ lw_tbl2 := z2_cons tkX7_leave (z2_app toX7_leave (z2_app wtcX7 (z2_app wtX0_add z2_nil)))
set_option maxRecDepth 20000 in
theorem toX6_loopBehind : ∀ w ∈ woX6_loopBehind, w ∈ lw_tbl2 := z_at [410, 1026, 784, 785, 172, 1055, 792, 793, 176] (by decide +kernel)
set_option maxRecDepth 20000 in
theorem tkX6_loopBehind : Cond.code yX6_loopBehind cX6_loopBehind 4 (some .int) ∈ lw_tbl2 := List.mem_of_getElem? (i := 1054) rfl
theorem wtX6_loopBehind : ∀ w ∈ wzX6_loopBehind, w ∈ lw_tbl2 := z2_cons tkX6_loopBehind (z2_app toX6_loopBehind (z2_app wtcX6 (z2_app wtcX5 (z2_app wtX6_row (z2_app wtX5_isLoop z2_nil)))))
set_option maxRecDepth 20000 in
theorem toX7_labelTarget : ∀ w ∈ woX7_labelTarget, w ∈ lw_tbl2 := z_at [430, 435, 436, 1022, 1023, 1024, 172, 999, 659, 660, 166, 1051, 1052, 1053, 1009, 1010, 1012, 865, 164] (by decide +kernel)
set_option maxRecDepth 20000 in
theorem tkX7_labelTarget : Cond.code yX7_labelTarget cX7_labelTarget 3 (some .int) ∈ lw_tbl2 := List.mem_of_getElem? (i := 1050) rfl
theorem wtX7_labelTarget : ∀ w ∈ wzX7_labelTarget, w ∈ lw_tbl2 := z2_cons tkX7_labelTarget (z2_app toX7_labelTarget (z2_app wtcX7 (z2_app wtcX9 (z2_app wtX6_labelled (z2_app wtX9_advance (z2_app wtX6_loopBehind (z2_app wtX1_fail z2_nil)))))))
set_option maxRecDepth 20000 in
theorem toX7_jump : ∀ w ∈ woX7_jump, w ∈ lw_tbl2 := z_at [435, 436, 438, 439, 430, 431, 991, 992, 994, 814, 164, 999, 659, 660, 166, 1056, 1057, 1058, 172, 853, 854, 856, 857, 783, 784, 785, 1060, 1061, 1062, 1065, 1067, 23, 165, 1009, 1010, 1012, 865, 1047, 1049, 22] (by decide +kernel)
set_option maxRecDepth 20000 in
theorem tkX7_jump : Cond.code yX7_jump cX7_jump 5 none ∈ lw_tbl2 := List.mem_of_getElem? (i := 1046) rfl
theorem wtX7_jump : ∀ w ∈ wzX7_jump, w ∈ lw_tbl2 := z2_cons tkX7_jump (z2_app toX7_jump (z2_app wtcX7 (z2_app wtcX9 (z2_app wtcX0 (z2_app wtcX5 (z2_app wtX1_found (z2_app wtX9_advance (z2_app wtX6_nearest (z2_app wtX1_expect (z2_app wtX6_row (z2_app wtX6_addJump (z2_app wtX7_leave (z2_app wtX1_fail (z2_app wtX7_labelTarget z2_nil))))))))))))))
set_option maxRecDepth 20000 in
theorem toX7_notReached : ∀ w ∈ woX7_notReached, w ∈ lw_tbl2 := z_at [432] (by decide +kernel)
set_option maxRecDepth 20000 in
theorem tkX7_notReached : Cond.code yX7_notReached cX7_notReached 2 none ∈ lw_tbl2 := List.mem_of_getElem? (i := 990) rfl
theorem wtX7_notReached : ∀ w ∈ wzX7_notReached, w ∈ lw_tbl2 := z2_cons tkX7_notReached (z2_app toX7_notReached (z2_app wtcX7 z2_nil))
set_option maxRecDepth 20000 in
theorem toX4_frameOf : ∀ w ∈ woX4_frameOf, w ∈ lw_tbl2 := z_at [388, 161, 844] (by decide +kernel)
set_option maxRecDepth 20000 in
theorem tkX4_frameOf : Cond.code yX4_frameOf cX4_frameOf 2 (some .int) ∈ lw_tbl2 := List.mem_of_getElem? (i := 1085) rfl
theorem wtX4_frameOf : ∀ w ∈ wzX4_frameOf, w ∈ lw_tbl2 := z2_cons tkX4_frameOf (z2_app toX4_frameOf (z2_app wtcX4 (z2_app wtX11_at z2_nil)))
set_option maxRecDepth 20000 in
theorem toX10_isKind : ∀ w ∈ woX10_isKind, w ∈ lw_tbl2 := z_at [204] (by decide +kernel)
set_option maxRecDepth 20000 in
theorem tkX10_isKind : Cond.code yX10_isKind cX10_isKind 2 (some .boolean) ∈ lw_tbl2 := List.mem_of_getElem? (i := 602) rfl
theorem wtX10_isKind : ∀ w ∈ wzX10_isKind, w ∈ lw_tbl2 := z2_cons tkX10_isKind (z2_app toX10_isKind (z2_app wtcX10 z2_nil))
set_option maxRecDepth 20000 in
theorem toX5_hasOneBody : ∀ w ∈ woX5_hasOneBody, w ∈ lw_tbl2 := z_at [713, 791, 792, 793, 176] (by decide +kernel)
set_option maxRecDepth 20000 in
theorem tkX5_hasOneBody : Cond.code yX5_hasOneBody cX5_hasOneBody 1 (some .boolean) ∈ lw_tbl2 := List.mem_of_getElem? (i := 790) rfl
theorem wtX5_hasOneBody : ∀ w ∈ wzX5_hasOneBody, w ∈ lw_tbl2 := z2_cons tkX5_hasOneBody (z2_app toX5_hasOneBody (z2_app wtcX5 (z2_app wtX5_isLoop z2_nil)))
set_option maxRecDepth 20000 in
theorem toX7_endLock : ∀ w ∈ woX7_endLock, w ∈ lw_tbl2 := z_at [438, 439, 433, 430, 1065, 1067, 23, 165, 819, 820, 821, 163, 824, 825, 826, 172] (by decide +kernel)
set_option maxRecDepth 20000 in
theorem tkX7_endLock : Cond.code yX7_endLock cX7_endLock 2 none ∈ lw_tbl2 := List.mem_of_getElem? (i := 1174) rfl
theorem wtX7_endLock : ∀ w ∈ wzX7_endLock, w ∈ lw_tbl2 := z2_cons tkX7_endLock (z2_app toX7_endLock (z2_app wtcX5 (z2_app wtcX7 (z2_app wtX7_leave (z2_app wtX0_aim (z2_app wtX6_pop z2_nil))))))
set_option maxRecDepth 20000 in
theorem toX7_endGuarded : ∀ w ∈ woX7_endGuarded, w ∈ lw_tbl2 := z_at [438, 439, 431, 433, 430, 1065, 1067, 23, 165, 819, 820, 821, 163, 991, 992, 994, 814, 164, 1013, 1014, 1016, 860, 835, 836, 837, 824, 825, 826, 172] (by decide +kernel)
set_option maxRecDepth 20000 in
theorem tkX7_endGuarded : Cond.code yX7_endGuarded cX7_endGuarded 2 none ∈ lw_tbl2 := List.mem_of_getElem? (i := 1183) rfl
theorem wtX7_endGuarded : ∀ w ∈ wzX7_endGuarded, w ∈ lw_tbl2 := z2_cons tkX7_endGuarded (z2_app toX7_endGuarded (z2_app wtcX5 (z2_app wtcX7 (z2_app wtX7_leave (z2_app wtX0_aim (z2_app wtX1_found (z2_app wtX1_misplaced (z2_app wtX0_add (z2_app wtX6_pop z2_nil)))))))))
set_option maxRecDepth 20000 in
theorem toX6_loseJumps : ∀ w ∈ woX6_loseJumps, w ∈ lw_tbl2 := z_at [409, 161, 589] (by decide +kernel)
set_option maxRecDepth 20000 in
theorem tkX6_loseJumps : Cond.code yX6_loseJumps cX6_loseJumps 4 none ∈ lw_tbl2 := List.mem_of_getElem? (i := 1191) rfl
theorem wtX6_loseJumps : ∀ w ∈ wzX6_loseJumps, w ∈ lw_tbl2 := z2_cons tkX6_loseJumps (z2_app toX6_loseJumps (z2_app wtcX6 (z2_app wtX11_put z2_nil)))
set_option maxRecDepth 20000 in
theorem toX7_endFinally : ∀ w ∈ woX7_endFinally, w ∈ lw_tbl2 := z_at [438, 439, 431, 433, 430, 835, 836, 837, 163, 819, 820, 821, 824, 825, 826, 172, 1188, 1189, 1190] (by decide +kernel)
set_option maxRecDepth 20000 in
theorem tkX7_endFinally : Cond.code yX7_endFinally cX7_endFinally 2 none ∈ lw_tbl2 := List.mem_of_getElem? (i := 1187) rfl
theorem wtX7_endFinally : ∀ w ∈ wzX7_endFinally, w ∈ lw_tbl2 := z2_cons tkX7_endFinally (z2_app toX7_endFinally (z2_app wtcX7 (z2_app wtcX5 (z2_app wtX0_add (z2_app wtX0_aim (z2_app wtX6_pop (z2_app wtX6_loseJumps z2_nil)))))))
set_option maxRecDepth 20000 in
theorem toX7_endSwitch : ∀ w ∈ woX7_endSwitch, w ∈ lw_tbl2 := z_at [438, 439, 431, 430, 835, 836, 837, 163, 819, 820, 821, 1179, 972, 973, 824, 825, 826, 172, 839, 840, 841] (by decide +kernel)
set_option maxRecDepth 20000 in
theorem tkX7_endSwitch : Cond.code yX7_endSwitch cX7_endSwitch 2 none ∈ lw_tbl2 := List.mem_of_getElem? (i := 1178) rfl
theorem wtX7_endSwitch : ∀ w ∈ wzX7_endSwitch, w ∈ lw_tbl2 := z2_cons tkX7_endSwitch (z2_app toX7_endSwitch (z2_app wtcX7 (z2_app wtcX5 (z2_app wtX0_add (z2_app wtX0_aim (z2_app wtX0_addCases (z2_app wtX6_pop (z2_app wtX6_isGoneTo z2_nil))))))))
set_option maxRecDepth 20000 in
theorem toX7_endList : ∀ w ∈ woX7_endList, w ∈ lw_tbl2 := z_at [444, 445, 430, 431, 435, 436, 438, 439, 979, 980, 982, 901, 164, 1171, 1173, 47, 165, 1180, 1182, 49, 824, 825, 826, 172, 1184, 1186, 50, 1175, 1177, 48, 987, 989, 14, 853, 854, 856, 857, 835, 836, 837, 163] (by decide +kernel)
set_option maxRecDepth 20000 in
theorem tkX7_endList : Cond.code yX7_endList cX7_endList 2 none ∈ lw_tbl2 := List.mem_of_getElem? (i := 1170) rfl
theorem wtX7_endList : ∀ w ∈ wzX7_endList, w ∈ lw_tbl2 := z2_cons tkX7_endList (z2_app toX7_endList (z2_app wtcX5 (z2_app wtcX7 (z2_app wtcX4 (z2_app wtcX9 (z2_app wtcX0 (z2_app wtX1_close (z2_app wtX7_endLock (z2_app wtX7_endGuarded (z2_app wtX6_pop (z2_app wtX7_endFinally (z2_app wtX7_endSwitch (z2_app wtX7_notReached (z2_app wtX1_expect (z2_app wtX0_add z2_nil)))))))))))))))
set_option maxRecDepth 20000 in
theorem toX7_beginFinally : ∀ w ∈ woX7_beginFinally, w ∈ lw_tbl2 := z_at [430, 435, 436, 438, 439, 431, 999, 659, 660, 166, 877, 878, 880, 881, 164, 835, 836, 837, 163, 819, 820, 821] (by decide +kernel)
set_option maxRecDepth 20000 in
theorem tkX7_beginFinally : Cond.code yX7_beginFinally cX7_beginFinally 2 none ∈ lw_tbl2 := List.mem_of_getElem? (i := 1166) rfl
theorem wtX7_beginFinally : ∀ w ∈ wzX7_beginFinally, w ∈ lw_tbl2 := z2_cons tkX7_beginFinally (z2_app toX7_beginFinally (z2_app wtcX5 (z2_app wtcX7 (z2_app wtcX6 (z2_app wtX9_advance (z2_app wtX1_open (z2_app wtX0_add (z2_app wtX0_aim z2_nil))))))))
set_option maxRecDepth 20000 in
theorem toX10_isUnder : ∀ w ∈ woX10_isUnder, w ∈ lw_tbl2 := z_at [197, 161, 844] (by decide +kernel)
set_option maxRecDepth 20000 in
theorem tkX10_isUnder : Cond.code yX10_isUnder cX10_isUnder 5 (some .boolean) ∈ lw_tbl2 := List.mem_of_getElem? (i := 1161) rfl
theorem wtX10_isUnder : ∀ w ∈ wzX10_isUnder, w ∈ lw_tbl2 := z2_cons tkX10_isUnder (z2_app toX10_isUnder (z2_app wtcX10 (z2_app wtX11_at z2_nil)))
set_option maxRecDepth 20000 in
theorem toX7_caughtKind : ∀ w ∈ woX7_caughtKind, w ∈ lw_tbl2 := z_at [435, 436, 441, 442, 438, 439, 991, 992, 994, 814, 164, 1081, 600, 601, 162, 835, 836, 837, 163, 999, 659, 660, 166, 1158, 1159, 1160, 1009, 1010, 1012, 865, 1013, 1014, 1016, 860] (by decide +kernel)
set_option maxRecDepth 20000 in
theorem tkX7_caughtKind : Cond.code yX7_caughtKind cX7_caughtKind 5 none ∈ lw_tbl2 := List.mem_of_getElem? (i := 1157) rfl
theorem wtX7_caughtKind : ∀ w ∈ wzX7_caughtKind, w ∈ lw_tbl2 := z2_cons tkX7_caughtKind (z2_app toX7_caughtKind (z2_app wtcX7 (z2_app wtcX9 (z2_app wtcX5 (z2_app wtX1_found (z2_app wtX10_isKind (z2_app wtX0_add (z2_app wtX9_advance (z2_app wtX10_isUnder (z2_app wtX1_fail (z2_app wtX1_misplaced z2_nil)))))))))))
set_option maxRecDepth 20000 in
theorem toX7_beginCatch : ∀ w ∈ woX7_beginCatch, w ∈ lw_tbl2 := z_at [438, 439, 435, 436, 444, 445, 433, 431, 831, 832, 833, 163, 999, 659, 660, 166, 877, 878, 880, 881, 164, 1154, 1156, 44, 165, 641, 642, 643, 1031, 1033, 18, 645, 646, 647, 171, 979, 980, 982, 901, 835, 836, 837, 819, 820, 821, 807, 808, 810, 811] (by decide +kernel)
set_option maxRecDepth 20000 in
theorem tkX7_beginCatch : Cond.code yX7_beginCatch cX7_beginCatch 4 none ∈ lw_tbl2 := List.mem_of_getElem? (i := 1153) rfl
theorem wtX7_beginCatch : ∀ w ∈ wzX7_beginCatch, w ∈ lw_tbl2 := z2_cons tkX7_beginCatch (z2_app toX7_beginCatch (z2_app wtcX7 (z2_app wtcX5 (z2_app wtX0_newTarget (z2_app wtX9_advance (z2_app wtX1_open (z2_app wtX7_caughtKind (z2_app wtX0_newCells (z2_app wtX7_newName (z2_app wtX4_add (z2_app wtX1_close (z2_app wtX0_add (z2_app wtX0_aim (z2_app wtX1_skip z2_nil))))))))))))))
