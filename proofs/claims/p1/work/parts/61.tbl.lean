set_option maxRecDepth 20000 in
theorem wtcZT : ∀ w ∈ wsZT0, w ∈ lw_tbl := by decide +kernel
set_option maxRecDepth 20000 in
theorem toJ0_coder_7d493 : ∀ w ∈ woJ0_coder_7d493, w ∈ lw_tbl := z_at [298, 2279] (by decide +kernel)
set_option maxRecDepth 20000 in
theorem tkJ0_coder_7d493 : Cond.code yJ0_coder_7d493 cJ0_coder_7d493 1 (some .byte) ∈ lw_tbl := List.mem_of_getElem? (i := 297) rfl
theorem wtJ0_coder_7d493 : ∀ w ∈ wzJ0_coder_7d493, w ∈ lw_tbl := zt_cons tkJ0_coder_7d493 (zt_app toJ0_coder_7d493 zt_nil)
set_option maxRecDepth 20000 in
theorem toJ0_length_8abf5 : ∀ w ∈ woJ0_length_8abf5, w ∈ lw_tbl := z_at [2278, 294, 295, 296, 167] (by decide +kernel)
set_option maxRecDepth 20000 in
theorem tkJ0_length_8abf5 : Cond.code yJ0_length_8abf5 cJ0_length_8abf5 1 (some .int) ∈ lw_tbl := List.mem_of_getElem? (i := 293) rfl
theorem wtJ0_length_8abf5 : ∀ w ∈ wzJ0_length_8abf5, w ∈ lw_tbl := zt_cons tkJ0_length_8abf5 (zt_app toJ0_length_8abf5 (zt_app wtJ0_coder_7d493 zt_nil))
set_option maxRecDepth 20000 in
theorem toJ0_isLatin1_aae02 : ∀ w ∈ woJ0_isLatin1_aae02, w ∈ lw_tbl := z_at [298, 2279] (by decide +kernel)
set_option maxRecDepth 20000 in
theorem tkJ0_isLatin1_aae02 : Cond.code yJ0_isLatin1_aae02 cJ0_isLatin1_aae02 1 (some .boolean) ∈ lw_tbl := List.mem_of_getElem? (i := 307) rfl
theorem wtJ0_isLatin1_aae02 : ∀ w ∈ wzJ0_isLatin1_aae02, w ∈ lw_tbl := zt_cons tkJ0_isLatin1_aae02 (zt_app toJ0_isLatin1_aae02 zt_nil)
set_option maxRecDepth 20000 in
theorem toJ3_checkIndex_8e157 : ∀ w ∈ woJ3_checkIndex_8e157, w ∈ lw_tbl := z_at [] (by decide +kernel)
set_option maxRecDepth 20000 in
theorem tkJ3_checkIndex_8e157 : Cond.code yJ3_checkIndex_8e157 cJ3_checkIndex_8e157 3 (some .int) ∈ lw_tbl := List.mem_of_getElem? (i := 318) rfl
theorem wtJ3_checkIndex_8e157 : ∀ w ∈ wzJ3_checkIndex_8e157, w ∈ lw_tbl := zt_cons tkJ3_checkIndex_8e157 (zt_app toJ3_checkIndex_8e157 zt_nil)
set_option maxRecDepth 20000 in
theorem toJ0_checkIndex_df160 : ∀ w ∈ woJ0_checkIndex_df160, w ∈ lw_tbl := z_at [314, 316, 317, 169] (by decide +kernel)
set_option maxRecDepth 20000 in
theorem tkJ0_checkIndex_df160 : Cond.code yJ0_checkIndex_df160 cJ0_checkIndex_df160 2 none ∈ lw_tbl := List.mem_of_getElem? (i := 313) rfl
theorem wtJ0_checkIndex_df160 : ∀ w ∈ wzJ0_checkIndex_df160, w ∈ lw_tbl := zt_cons tkJ0_checkIndex_df160 (zt_app toJ0_checkIndex_df160 (zt_app wtJ3_checkIndex_8e157 zt_nil))
set_option maxRecDepth 20000 in
theorem toJ1_charAt_3b067 : ∀ w ∈ woJ1_charAt_3b067, w ∈ lw_tbl := z_at [311, 312, 167] (by decide +kernel)
set_option maxRecDepth 20000 in
theorem tkJ1_charAt_3b067 : Cond.code yJ1_charAt_3b067 cJ1_charAt_3b067 2 (some .char) ∈ lw_tbl := List.mem_of_getElem? (i := 310) rfl
theorem wtJ1_charAt_3b067 : ∀ w ∈ wzJ1_charAt_3b067, w ∈ lw_tbl := zt_cons tkJ1_charAt_3b067 (zt_app toJ1_charAt_3b067 (zt_app wtJ0_checkIndex_df160 zt_nil))
set_option maxRecDepth 20000 in
theorem toJ0_charAt_5068e : ∀ w ∈ woJ0_charAt_5068e, w ∈ lw_tbl := z_at [2278, 304, 305, 306, 167, 308, 309, 168] (by decide +kernel)
set_option maxRecDepth 20000 in
theorem tkJ0_charAt_5068e : Cond.code yJ0_charAt_5068e cJ0_charAt_5068e 2 (some .char) ∈ lw_tbl := List.mem_of_getElem? (i := 303) rfl
theorem wtJ0_charAt_5068e : ∀ w ∈ wzJ0_charAt_5068e, w ∈ lw_tbl := zt_cons tkJ0_charAt_5068e (zt_app toJ0_charAt_5068e (zt_app wtJ0_isLatin1_aae02 (zt_app wtJ1_charAt_3b067 zt_nil)))
set_option maxRecDepth 20000 in
theorem toX9_init : ∀ w ∈ woX9_init, w ∈ lw_tbl := z_at [339, 288, 189, 190, 371, 338, 290, 291, 292, 167, 300, 301, 302] (by decide +kernel)
set_option maxRecDepth 20000 in
theorem tkX9_init : Cond.code yX9_init cX9_init 4 none ∈ lw_tbl := List.mem_of_getElem? (i := 287) rfl
theorem wtX9_init : ∀ w ∈ wzX9_init, w ∈ lw_tbl := zt_cons tkX9_init (zt_app toX9_init (zt_app wtcX9 (zt_app wtJ0_length_8abf5 (zt_app wtJ0_charAt_5068e zt_nil))))
set_option maxRecDepth 20000 in
theorem toX11_init : ∀ w ∈ woX11_init, w ∈ lw_tbl := z_at [188, 189, 190, 220, 552, 191, 192, 162, 193, 194, 553, 221, 222, 163, 224, 554, 281, 282, 165, 283, 284, 166, 285, 286, 373, 374, 555, 479, 480, 173, 481, 482, 556] (by decide +kernel)
set_option maxRecDepth 20000 in
theorem tkX11_init : Cond.code yX11_init cX11_init 1 none ∈ lw_tbl := List.mem_of_getElem? (i := 187) rfl
theorem wtX11_init : ∀ w ∈ wzX11_init, w ∈ lw_tbl := zt_cons tkX11_init (zt_app toX11_init (zt_app wtcX11 (zt_app wtcX10 (zt_app wtcX0 (zt_app wtcX7 (zt_app wtcX9 (zt_app wtcX3 (zt_app wtX10_init (zt_app wtX0_init (zt_app wtX9_init (zt_app wtX7_init (zt_app wtX3_init zt_nil))))))))))))
set_option maxRecDepth 20000 in
theorem toX11_rounds : ∀ w ∈ woX11_rounds, w ∈ lw_tbl := z_at [1443, 182] (by decide +kernel)
set_option maxRecDepth 20000 in
theorem tkX11_rounds : Cond.code yX11_rounds cX11_rounds 3 (some .int) ∈ lw_tbl := List.mem_of_getElem? (i := 1442) rfl
theorem wtX11_rounds : ∀ w ∈ wzX11_rounds, w ∈ lw_tbl := zt_cons tkX11_rounds (zt_app toX11_rounds (zt_app wtcZT zt_nil))
set_option maxRecDepth 20000 in
theorem toX12_rounds : ∀ w ∈ woX12_rounds, w ∈ lw_tbl := z_at [1535] (by decide +kernel)
set_option maxRecDepth 20000 in
theorem tkX12_rounds : Cond.code yX12_rounds cX12_rounds 3 (some .int) ∈ lw_tbl := List.mem_of_getElem? (i := 2259) rfl
theorem wtX12_rounds : ∀ w ∈ wzX12_rounds, w ∈ lw_tbl := zt_cons tkX12_rounds (zt_app toX12_rounds (zt_app wtcX12 zt_nil))
set_option maxRecDepth 20000 in
theorem toL_rounds : ∀ w ∈ woL_rounds, w ∈ lw_tbl := z_at [1438, 1439, 1440, 1441, 161] (by decide +kernel)
set_option maxRecDepth 20000 in
theorem tkL_rounds : Cond.codeWith yL_rounds cL_rounds 5 (some .int) [(0, 10, 13, 13)] ∈ lw_tbl := List.mem_of_getElem? (i := 1437) rfl
theorem wtL_rounds : ∀ w ∈ wzL_rounds, w ∈ lw_tbl := zt_cons tkL_rounds (zt_app toL_rounds (zt_app wtX11_rounds zt_nil))
