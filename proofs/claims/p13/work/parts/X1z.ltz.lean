set_option maxRecDepth 20000 in
theorem tkX1_arm : Cond.code yX1_arm cX1_arm 7 (some .int) ∈ lw_tbl2 := List.mem_of_getElem? (i := 947) rfl
set_option maxRecDepth 20000 in
theorem tkX1_choice : Cond.code yX1_choice cX1_choice 6 none ∈ lw_tbl2 := List.mem_of_getElem? (i := 942) rfl
set_option maxRecDepth 20000 in
theorem tkX1_comparison : Cond.code yX1_comparison cX1_comparison 2 none ∈ lw_tbl2 := List.mem_of_getElem? (i := 908) rfl
set_option maxRecDepth 20000 in
theorem tkX1_condition : Cond.code yX1_condition cX1_condition 4 (some .boolean) ∈ lw_tbl2 := List.mem_of_getElem? (i := 888) rfl
set_option maxRecDepth 20000 in
theorem tkX1_conjunction : Cond.code yX1_conjunction cX1_conjunction 4 (some .boolean) ∈ lw_tbl2 := List.mem_of_getElem? (i := 892) rfl
set_option maxRecDepth 20000 in
theorem tkX1_expression : Cond.code yX1_expression cX1_expression 3 none ∈ lw_tbl2 := List.mem_of_getElem? (i := 913) rfl
set_option maxRecDepth 20000 in
theorem tkX1_factor : Cond.code yX1_factor cX1_factor 1 none ∈ lw_tbl2 := List.mem_of_getElem? (i := 921) rfl
set_option maxRecDepth 20000 in
theorem tkX1_negated : Cond.code yX1_negated cX1_negated 1 none ∈ lw_tbl2 := List.mem_of_getElem? (i := 938) rfl
set_option maxRecDepth 20000 in
theorem tkX1_one : Cond.code yX1_one cX1_one 1 (some .boolean) ∈ lw_tbl2 := List.mem_of_getElem? (i := 896) rfl
set_option maxRecDepth 20000 in
theorem tkX1_product : Cond.code yX1_product cX1_product 3 none ∈ lw_tbl2 := List.mem_of_getElem? (i := 917) rfl
set_option maxRecDepth 20000 in
theorem tkX7_armBlock : Cond.code yX7_armBlock cX7_armBlock 5 none ∈ lw_tbl2 := List.mem_of_getElem? (i := 970) rfl
set_option maxRecDepth 20000 in
theorem tkX7_beginFor : Cond.code yX7_beginFor cX7_beginFor 5 none ∈ lw_tbl2 := List.mem_of_getElem? (i := 1113) rfl
set_option maxRecDepth 20000 in
theorem tkX7_beginIf : Cond.code yX7_beginIf cX7_beginIf 2 none ∈ lw_tbl2 := List.mem_of_getElem? (i := 1097) rfl
set_option maxRecDepth 20000 in
theorem tkX7_beginSwitch : Cond.code yX7_beginSwitch cX7_beginSwitch 2 none ∈ lw_tbl2 := List.mem_of_getElem? (i := 1141) rfl
set_option maxRecDepth 20000 in
theorem tkX7_beginWhile : Cond.code yX7_beginWhile cX7_beginWhile 4 none ∈ lw_tbl2 := List.mem_of_getElem? (i := 1101) rfl
set_option maxRecDepth 20000 in
theorem tkX7_bodyTurn : Cond.code yX7_bodyTurn cX7_bodyTurn 2 none ∈ lw_tbl2 := List.mem_of_getElem? (i := 798) rfl
set_option maxRecDepth 20000 in
theorem tkX7_change : Cond.code yX7_change cX7_change 7 none ∈ lw_tbl2 := List.mem_of_getElem? (i := 1003) rfl
set_option maxRecDepth 20000 in
theorem tkX7_changeHere : Cond.code yX7_changeHere cX7_changeHere 5 none ∈ lw_tbl2 := List.mem_of_getElem? (i := 1133) rfl
set_option maxRecDepth 20000 in
theorem tkX7_claim : Cond.code yX7_claim cX7_claim 2 none ∈ lw_tbl2 := List.mem_of_getElem? (i := 1089) rfl
set_option maxRecDepth 20000 in
theorem tkX7_compound : Cond.code yX7_compound cX7_compound 1 none ∈ lw_tbl2 := List.mem_of_getElem? (i := 1093) rfl
set_option maxRecDepth 20000 in
theorem tkX7_conditionInside : Cond.code yX7_conditionInside cX7_conditionInside 2 (some .boolean) ∈ lw_tbl2 := List.mem_of_getElem? (i := 876) rfl
set_option maxRecDepth 20000 in
theorem tkX7_define : Cond.code yX7_define cX7_define 3 none ∈ lw_tbl2 := List.mem_of_getElem? (i := 1038) rfl
set_option maxRecDepth 20000 in
theorem tkX7_endBody : Cond.code yX7_endBody cX7_endBody 2 none ∈ lw_tbl2 := List.mem_of_getElem? (i := 802) rfl
set_option maxRecDepth 20000 in
theorem tkX7_endDo : Cond.code yX7_endDo cX7_endDo 4 none ∈ lw_tbl2 := List.mem_of_getElem? (i := 852) rfl
set_option maxRecDepth 20000 in
theorem tkX7_forHead : Cond.code yX7_forHead cX7_forHead 7 (some (.object "StatementRules2$Open")) ∈ lw_tbl2 := List.mem_of_getElem? (i := 1129) rfl
set_option maxRecDepth 20000 in
theorem tkX7_giveBack : Cond.code yX7_giveBack cX7_giveBack 1 none ∈ lw_tbl2 := List.mem_of_getElem? (i := 1072) rfl
set_option maxRecDepth 20000 in
theorem tkX7_groupTurn : Cond.code yX7_groupTurn cX7_groupTurn 4 none ∈ lw_tbl2 := List.mem_of_getElem? (i := 1195) rfl
set_option maxRecDepth 20000 in
theorem tkX7_named : Cond.code yX7_named cX7_named 5 none ∈ lw_tbl2 := List.mem_of_getElem? (i := 998) rfl
set_option maxRecDepth 20000 in
theorem tkX7_plain : Cond.code yX7_plain cX7_plain 1 none ∈ lw_tbl2 := List.mem_of_getElem? (i := 1030) rfl
set_option maxRecDepth 20000 in
theorem tkX7_rowHead : Cond.code yX7_rowHead cX7_rowHead 6 (some (.object "StatementRules2$Open")) ∈ lw_tbl2 := List.mem_of_getElem? (i := 1117) rfl
set_option maxRecDepth 20000 in
theorem tkX7_rowValues : Cond.code yX7_rowValues cX7_rowValues 3 (some .int) ∈ lw_tbl2 := List.mem_of_getElem? (i := 1121) rfl
set_option maxRecDepth 20000 in
theorem tkX7_statement : Cond.code yX7_statement cX7_statement 2 none ∈ lw_tbl2 := List.mem_of_getElem? (i := 986) rfl
set_option maxRecDepth 20000 in
theorem tkX7_throwOne : Cond.code yX7_throwOne cX7_throwOne 2 none ∈ lw_tbl2 := List.mem_of_getElem? (i := 1080) rfl
set_option maxRecDepth 20000 in
theorem tkX7_turns : Cond.code yX7_turns cX7_turns 4 none ∈ lw_tbl2 := List.mem_of_getElem? (i := 782) rfl
set_option maxRecDepth 20000 in
theorem tkX7_yieldValue : Cond.code yX7_yieldValue cX7_yieldValue 2 none ∈ lw_tbl2 := List.mem_of_getElem? (i := 1076) rfl
theorem twcZ : ∀ w ∈ wcZ, w ∈ lw_tbl2 := (z2_cons tkX1_arm (z2_cons tkX1_choice (z2_cons tkX1_comparison (z2_cons tkX1_condition (z2_cons tkX1_conjunction (z2_cons tkX1_expression (z2_cons tkX1_factor (z2_cons tkX1_negated (z2_cons tkX1_one (z2_cons tkX1_product (z2_cons tkX7_armBlock (z2_cons tkX7_beginFor (z2_cons tkX7_beginIf (z2_cons tkX7_beginSwitch (z2_cons tkX7_beginWhile (z2_cons tkX7_bodyTurn (z2_cons tkX7_change (z2_cons tkX7_changeHere (z2_cons tkX7_claim (z2_cons tkX7_compound (z2_cons tkX7_conditionInside (z2_cons tkX7_define (z2_cons tkX7_endBody (z2_cons tkX7_endDo (z2_cons tkX7_forHead (z2_cons tkX7_giveBack (z2_cons tkX7_groupTurn (z2_cons tkX7_named (z2_cons tkX7_plain (z2_cons tkX7_rowHead (z2_cons tkX7_rowValues (z2_cons tkX7_statement (z2_cons tkX7_throwOne (z2_cons tkX7_turns (z2_cons tkX7_yieldValue z2_nil)))))))))))))))))))))))))))))))))))
set_option maxRecDepth 20000 in
theorem toX1_arm : ∀ w ∈ woX1_arm, w ∈ lw_tbl2 := z_at [437, 434, 943, 832, 833, 163, 813, 815, 816, 814, 164, 818, 659, 660, 166, 948, 950, 951, 949, 963, 2271, 2272, 857, 964, 820, 821, 909, 911, 912, 910, 898, 836, 837, 965, 967, 968, 969, 165, 953, 2269, 2270, 811, 864, 866, 867, 865] (by decide +kernel)
set_option maxRecDepth 20000 in
theorem toX1_choice : ∀ w ∈ woX1_choice, w ∈ lw_tbl2 := z_at [434, 437, 818, 659, 660, 166, 897, 2258, 2259, 881, 164, 909, 911, 912, 910, 900, 902, 903, 901, 943, 832, 833, 163, 898, 836, 837, 964, 820, 821, 971, 972, 973, 859, 861, 862, 860, 813, 815, 816, 814, 944, 2268, 2276, 946] (by decide +kernel)
set_option maxRecDepth 20000 in
theorem toX1_comparison : ∀ w ∈ woX1_comparison, w ∈ lw_tbl2 := z_at [434, 437, 909, 911, 912, 910, 164, 976, 977, 818, 659, 660, 166, 898, 836, 837, 163, 859, 861, 862, 860] (by decide +kernel)
set_option maxRecDepth 20000 in
theorem toX1_condition : ∀ w ∈ woX1_condition, w ∈ lw_tbl2 := z_at [437, 889, 2256, 2277, 891, 164, 813, 815, 816, 814, 943, 832, 833, 163, 964, 820, 821, 953, 2269, 2270, 811, 898, 836, 837] (by decide +kernel)
set_option maxRecDepth 20000 in
theorem toX1_conjunction : ∀ w ∈ woX1_conjunction, w ∈ lw_tbl2 := z_at [437, 893, 2257, 2278, 895, 164, 813, 815, 816, 814, 943, 832, 833, 163, 964, 820, 821, 953, 2269, 2270, 811, 898, 836, 837] (by decide +kernel)
set_option maxRecDepth 20000 in
theorem toX1_expression : ∀ w ∈ woX1_expression, w ∈ lw_tbl2 := z_at [434, 437, 914, 2263, 2279, 916, 164, 813, 815, 816, 814, 818, 659, 660, 166, 898, 836, 837, 163] (by decide +kernel)
set_option maxRecDepth 20000 in
theorem toX1_factor : ∀ w ∈ woX1_factor, w ∈ lw_tbl2 := z_at [434, 437, 898, 836, 837, 163, 818, 659, 660, 166, 922, 2265, 2280, 924, 164, 897, 2258, 2259, 881, 909, 911, 912, 910, 900, 902, 903, 901, 935, 2266, 2281, 937, 939, 2267, 2282, 941, 859, 861, 862, 860] (by decide +kernel)
set_option maxRecDepth 20000 in
theorem toX1_negated : ∀ w ∈ woX1_negated, w ∈ lw_tbl2 := z_at [448, 455, 437, 897, 2258, 2259, 881, 164, 898, 836, 837, 163, 918, 2264, 2283, 920] (by decide +kernel)
set_option maxRecDepth 20000 in
theorem toX1_one : ∀ w ∈ woX1_one, w ∈ lw_tbl2 := z_at [434, 448, 455, 437, 897, 2258, 2259, 881, 164, 898, 836, 837, 163, 893, 2257, 2278, 895, 899, 2260, 2261, 887, 900, 902, 903, 901, 818, 659, 660, 166, 905, 2262, 2284, 907] (by decide +kernel)
set_option maxRecDepth 20000 in
theorem toX1_product : ∀ w ∈ woX1_product, w ∈ lw_tbl2 := z_at [434, 437, 918, 2264, 2283, 920, 164, 813, 815, 816, 814, 818, 659, 660, 166, 898, 836, 837, 163] (by decide +kernel)
set_option maxRecDepth 20000 in
theorem toX7_armBlock : ∀ w ∈ woX7_armBlock, w ∈ lw_tbl2 := z_at [431, 430, 433, 444, 445, 877, 878, 880, 881, 164, 701, 702, 703, 172, 779, 781, 7, 165] (by decide +kernel)
set_option maxRecDepth 20000 in
theorem toX7_beginFor : ∀ w ∈ woX7_beginFor, w ∈ lw_tbl2 := z_at [444, 445, 435, 436, 999, 659, 660, 166, 877, 878, 880, 881, 164, 807, 808, 810, 811, 991, 992, 994, 814, 1126, 1128, 37, 165, 1130, 1132, 38, 1031, 1033, 18, 1035, 1037, 19, 1114, 1116, 34] (by decide +kernel)
set_option maxRecDepth 20000 in
theorem toX7_beginIf : ∀ w ∈ woX7_beginIf, w ∈ lw_tbl2 := z_at [438, 439, 435, 436, 430, 433, 444, 445, 831, 832, 833, 163, 999, 659, 660, 166, 873, 875, 12, 165, 835, 836, 837, 701, 702, 703, 172] (by decide +kernel)
set_option maxRecDepth 20000 in
theorem toX7_beginSwitch : ∀ w ∈ woX7_beginSwitch, w ∈ lw_tbl2 := z_at [435, 436, 430, 433, 444, 445, 438, 439, 999, 659, 660, 166, 877, 878, 880, 881, 164, 1018, 1019, 1021, 910, 979, 980, 982, 901, 701, 702, 703, 172, 831, 832, 833, 163, 835, 836, 837] (by decide +kernel)
set_option maxRecDepth 20000 in
theorem toX7_beginWhile : ∀ w ∈ woX7_beginWhile, w ∈ lw_tbl2 := z_at [438, 439, 435, 436, 831, 832, 833, 163, 999, 659, 660, 166, 819, 820, 821, 873, 875, 12, 165, 835, 836, 837, 1102, 1104, 31] (by decide +kernel)
set_option maxRecDepth 20000 in
theorem toX7_bodyTurn : ∀ w ∈ woX7_bodyTurn, w ∈ lw_tbl2 := z_at [983, 985, 13, 165, 799, 801, 9] (by decide +kernel)
set_option maxRecDepth 20000 in
theorem toX7_change : ∀ w ∈ woX7_change, w ∈ lw_tbl2 := z_at [444, 445, 435, 436, 438, 439, 1004, 927, 928, 171, 991, 992, 994, 814, 164, 1009, 1010, 1012, 865, 807, 808, 810, 811, 999, 659, 660, 166, 1018, 1019, 1021, 910, 1017, 931, 932, 835, 836, 837, 163, 1013, 1014, 1016, 860, 1005, 1006, 1007] (by decide +kernel)
set_option maxRecDepth 20000 in
theorem toX7_changeHere : ∀ w ∈ woX7_changeHere, w ∈ lw_tbl2 := z_at [435, 436, 999, 659, 660, 166, 1000, 1002, 16, 165] (by decide +kernel)
set_option maxRecDepth 20000 in
theorem toX7_claim : ∀ w ∈ woX7_claim, w ∈ lw_tbl2 := z_at [438, 439, 435, 436, 831, 832, 833, 163, 999, 659, 660, 166, 835, 836, 837, 883, 884, 886, 887, 164, 807, 808, 810, 811, 819, 820, 821, 853, 854, 856, 857, 1018, 1019, 1021, 910] (by decide +kernel)
set_option maxRecDepth 20000 in
theorem toX7_compound : ∀ w ∈ woX7_compound, w ∈ lw_tbl2 := z_at [435, 436, 1094, 1096, 29, 165, 1013, 1014, 1016, 860, 164, 1098, 1100, 30, 1106, 1108, 32, 1110, 1112, 33, 1134, 1136, 39, 1142, 1144, 41, 1138, 1140, 40] (by decide +kernel)
set_option maxRecDepth 20000 in
theorem toX7_conditionInside : ∀ w ∈ woX7_conditionInside, w ∈ lw_tbl2 := z_at [877, 878, 880, 881, 164, 883, 884, 886, 887, 979, 980, 982, 901] (by decide +kernel)
set_option maxRecDepth 20000 in
theorem toX7_define : ∀ w ∈ woX7_define, w ∈ lw_tbl2 := z_at [438, 439, 853, 854, 856, 857, 164, 1018, 1019, 1021, 910, 1039, 1041, 20, 165, 835, 836, 837, 163] (by decide +kernel)
set_option maxRecDepth 20000 in
theorem toX7_endBody : ∀ w ∈ woX7_endBody, w ∈ lw_tbl2 := z_at [438, 439, 431, 444, 445, 430, 803, 805, 10, 165, 819, 820, 821, 163, 824, 825, 826, 172, 849, 851, 11, 839, 840, 841, 835, 836, 837] (by decide +kernel)
set_option maxRecDepth 20000 in
theorem toX7_endDo : ∀ w ∈ woX7_endDo, w ∈ lw_tbl2 := z_at [431, 438, 439, 430, 853, 854, 856, 857, 164, 819, 820, 821, 163, 873, 875, 12, 165, 835, 836, 837, 839, 840, 841, 172] (by decide +kernel)
set_option maxRecDepth 20000 in
theorem toX7_forHead : ∀ w ∈ woX7_forHead, w ∈ lw_tbl2 := z_at [438, 439, 831, 832, 833, 163, 853, 854, 856, 857, 164, 819, 820, 821, 991, 992, 994, 814, 835, 836, 837, 979, 980, 982, 901, 1102, 1104, 31, 165, 1130, 1132, 38, 883, 884, 886, 887] (by decide +kernel)
set_option maxRecDepth 20000 in
theorem toX7_giveBack : ∀ w ∈ woX7_giveBack, w ∈ lw_tbl2 := z_at [430, 435, 436, 438, 439, 431, 999, 659, 660, 166, 1018, 1019, 1021, 910, 164, 835, 836, 837, 163, 853, 854, 856, 857, 1009, 1010, 1012, 865] (by decide +kernel)
set_option maxRecDepth 20000 in
theorem toX7_groupTurn : ∀ w ∈ woX7_groupTurn, w ∈ lw_tbl2 := z_at [438, 439, 435, 436, 431, 991, 992, 994, 814, 164, 831, 832, 833, 163, 999, 659, 660, 166, 853, 854, 856, 857, 819, 820, 821, 1196, 1197, 1199, 949, 1009, 1010, 1012, 865, 1013, 1014, 1016, 860, 983, 985, 13, 165] (by decide +kernel)
set_option maxRecDepth 20000 in
theorem toX7_named : ∀ w ∈ woX7_named, w ∈ lw_tbl2 := z_at [435, 436, 430, 433, 444, 445, 438, 439, 999, 659, 660, 166, 991, 992, 994, 814, 164, 1022, 1023, 1024, 172, 701, 702, 703, 831, 832, 833, 163, 1009, 1010, 1012, 865, 835, 836, 837, 1000, 1002, 16, 165, 853, 854, 856, 857] (by decide +kernel)
set_option maxRecDepth 20000 in
theorem toX7_plain : ∀ w ∈ woX7_plain, w ∈ lw_tbl2 := z_at [435, 436, 438, 439, 999, 659, 660, 166, 1031, 1033, 18, 165, 1035, 1037, 19, 853, 854, 856, 857, 164, 1018, 1019, 1021, 910, 835, 836, 837, 163, 1043, 1045, 21, 1069, 1071, 24, 1077, 1079, 26, 1086, 1088, 27, 1073, 1075, 25, 1090, 1092, 28] (by decide +kernel)
set_option maxRecDepth 20000 in
theorem toX7_rowHead : ∀ w ∈ woX7_rowHead, w ∈ lw_tbl2 := z_at [438, 439, 435, 436, 831, 832, 833, 163, 999, 659, 660, 166, 1118, 1120, 35, 165, 979, 980, 982, 901, 164, 819, 820, 821, 835, 836, 837, 1039, 1041, 20, 1102, 1104, 31] (by decide +kernel)
set_option maxRecDepth 20000 in
theorem toX7_rowValues : ∀ w ∈ woX7_rowValues, w ∈ lw_tbl2 := z_at [438, 439, 807, 808, 810, 811, 164, 1018, 1019, 1021, 910, 641, 642, 643, 163, 835, 836, 837, 1122, 1124, 36, 165] (by decide +kernel)
set_option maxRecDepth 20000 in
theorem toX7_statement : ∀ w ∈ woX7_statement, w ∈ lw_tbl2 := z_at [431, 438, 439, 430, 433, 444, 445, 435, 436, 991, 992, 994, 814, 164, 835, 836, 837, 163, 1027, 1029, 17, 165, 1013, 1014, 1016, 860, 877, 878, 880, 881, 701, 702, 703, 172, 995, 997, 15, 987, 989, 14] (by decide +kernel)
set_option maxRecDepth 20000 in
theorem toX7_throwOne : ∀ w ∈ woX7_throwOne, w ∈ lw_tbl2 := z_at [435, 436, 431, 444, 445, 438, 439, 441, 442, 999, 659, 660, 166, 991, 992, 994, 814, 164, 1013, 1014, 1016, 860, 853, 854, 856, 857, 1004, 927, 928, 171, 1009, 1010, 1012, 865, 1005, 1006, 1007, 1082, 1083, 1084, 835, 836, 837, 163, 1081, 600, 601, 162, 1018, 1019, 1021, 910] (by decide +kernel)
set_option maxRecDepth 20000 in
theorem toX7_turns : ∀ w ∈ woX7_turns, w ∈ lw_tbl2 := z_at [446, 447, 430, 783, 784, 785, 172, 787, 788, 789, 176, 991, 992, 994, 814, 164, 1167, 1169, 46, 165, 983, 985, 13, 1192, 1194, 51, 1163, 1165, 45, 1150, 1152, 43, 795, 797, 8] (by decide +kernel)
set_option maxRecDepth 20000 in
theorem toX7_yieldValue : ∀ w ∈ woX7_yieldValue, w ∈ lw_tbl2 := z_at [430, 435, 436, 438, 439, 431, 783, 784, 785, 172, 1009, 1010, 1012, 865, 164, 999, 659, 660, 166, 1018, 1019, 1021, 910, 835, 836, 837, 163, 853, 854, 856, 857] (by decide +kernel)
theorem wtZ : ∀ w ∈ wzZ, w ∈ lw_tbl2 := (z2_app twcZ (z2_app toX1_arm (z2_app toX1_choice (z2_app toX1_comparison (z2_app toX1_condition (z2_app toX1_conjunction (z2_app toX1_expression (z2_app toX1_factor (z2_app toX1_negated (z2_app toX1_one (z2_app toX1_product (z2_app toX7_armBlock (z2_app toX7_beginFor (z2_app toX7_beginIf (z2_app toX7_beginSwitch (z2_app toX7_beginWhile (z2_app toX7_bodyTurn (z2_app toX7_change (z2_app toX7_changeHere (z2_app toX7_claim (z2_app toX7_compound (z2_app toX7_conditionInside (z2_app toX7_define (z2_app toX7_endBody (z2_app toX7_endDo (z2_app toX7_forHead (z2_app toX7_giveBack (z2_app toX7_groupTurn (z2_app toX7_named (z2_app toX7_plain (z2_app toX7_rowHead (z2_app toX7_rowValues (z2_app toX7_statement (z2_app toX7_throwOne (z2_app toX7_turns (z2_app toX7_yieldValue (z2_app wtcX7 (z2_app wtcX9 (z2_app wtcX0 (z2_app wtcX6 (z2_app wtcX4 (z2_app wtcX5 (z2_app wtX0_newTarget (z2_app wtX1_found (z2_app wtX9_advance (z2_app wtX1_caseNumber (z2_app wtX1_expect (z2_app wtX0_aim (z2_app wtX0_add (z2_app wtX1_skip (z2_app wtX1_fail (z2_app wtX1_open (z2_app wtX1_close (z2_app wtX0_addCases (z2_app wtX1_misplaced (z2_app wtX1_comparing (z2_app wtX1_loadName (z2_app wtX6_push (z2_app wtX7_newName (z2_app wtX7_pushLoop (z2_app wtX4_find (z2_app wtX4_cellOf (z2_app wtX4_isCaught (z2_app wtX7_beginDo (z2_app wtX7_beginLock (z2_app wtX7_beginTry (z2_app wtX7_tell (z2_app wtX7_endIf (z2_app wtX6_pop (z2_app wtX6_isGoneTo (z2_app wtX6_labelled (z2_app wtX7_jump (z2_app wtX0_newCells (z2_app wtX7_throwNull (z2_app wtX7_notReached (z2_app wtX4_frameOf (z2_app wtX10_isKind (z2_app wtX6_row (z2_app wtX5_hasOneBody (z2_app wtX7_endList (z2_app wtX7_beginFinally (z2_app wtX7_beginCatch z2_nil))))))))))))))))))))))))))))))))))))))))))))))))))))))))))))))))))))))))))))))))))
