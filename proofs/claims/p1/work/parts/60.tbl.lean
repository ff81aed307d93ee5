set_option maxRecDepth 20000 in
theorem wtcX11 : ∀ w ∈ wsX110, w ∈ lw_tbl := z_at [561, 563, 565, 567, 569, 571, 573, 575, 577] (by decide +kernel)
set_option maxRecDepth 20000 in
theorem wtcX10 : ∀ w ∈ wsX100, w ∈ lw_tbl := z_at [207, 209, 211, 213, 215, 217] (by decide +kernel)
set_option maxRecDepth 20000 in
theorem wtcX0 : ∀ w ∈ wsX00, w ∈ lw_tbl := z_at [254, 256, 258, 260, 262, 264, 266, 268, 270, 272, 274, 276, 278] (by decide +kernel)
set_option maxRecDepth 20000 in
theorem wtcX4 : ∀ w ∈ wsX40, w ∈ lw_tbl := z_at [391, 393, 395, 397] (by decide +kernel)
set_option maxRecDepth 20000 in
theorem wtcX6 : ∀ w ∈ wsX60, w ∈ lw_tbl := z_at [417, 419, 421, 423, 425, 427] (by decide +kernel)
set_option maxRecDepth 20000 in
theorem wtcX9 : ∀ w ∈ wsX90, w ∈ lw_tbl := z_at [354, 356, 358, 360, 362, 364, 366, 368] (by decide +kernel)
set_option maxRecDepth 20000 in
theorem wtcX5 : ∀ w ∈ wsX50, w ∈ lw_tbl := z_at [744, 746, 748, 750, 752, 754, 756, 758, 760, 762, 764, 766, 768, 770, 772, 774, 776] (by decide +kernel)
set_option maxRecDepth 20000 in
theorem wtcX7 : ∀ w ∈ wsX70, w ∈ lw_tbl := z_at [464, 466, 468, 470, 472, 474, 476, 456, 458, 460, 462] (by decide +kernel)
set_option maxRecDepth 20000 in
theorem wtcX12 : ∀ w ∈ wsX120, w ∈ lw_tbl := z_at [1651, 1653, 1655, 1657, 1659, 1661, 1663, 1665, 1667, 1669, 1671, 1673, 1675, 1677, 1679, 1681, 1683, 1685, 1687, 1689, 1691, 1693, 1695, 1697, 1699, 1701, 1703, 1705, 1707, 1709, 1711, 1713, 1715, 1717, 1719, 1721, 1723, 1725, 1727, 1729, 1731, 1733, 1735, 1737, 1739, 1741, 1743, 1745, 1747, 1749, 1751, 1753, 1755, 1757, 1759, 1761, 1763, 1765, 1767, 1769, 1771, 1773, 1775, 1777, 1779, 1781, 1783, 1785, 1787, 1789, 1791, 1793, 1795, 1797, 1799, 1801, 1803, 1805, 1807, 1809, 1811, 1813, 1815, 1817, 1819, 1821, 1823, 1825, 1827, 1829, 1831, 1833, 1835, 1837, 1839, 1841, 1843, 1845, 1847, 1849, 1851, 1853, 1855, 1857, 1859, 1861, 1863, 1865, 1867, 1869, 1871, 1873, 1875, 1877, 1879, 1881] (by decide +kernel)
set_option maxRecDepth 20000 in
theorem wtcX3 : ∀ w ∈ wsX30, w ∈ lw_tbl := z_at [511, 513, 515, 517, 519, 521, 523, 525, 527, 529, 531, 533, 535, 537, 539, 541, 543, 545, 547, 549] (by decide +kernel)
set_option maxRecDepth 20000 in
theorem toX11_put : ∀ w ∈ woX11_put, w ∈ lw_tbl := z_at [] (by decide +kernel)
set_option maxRecDepth 20000 in
theorem tkX11_put : Cond.code yX11_put cX11_put 3 none ∈ lw_tbl := List.mem_of_getElem? (i := 590) rfl
theorem wtX11_put : ∀ w ∈ wzX11_put, w ∈ lw_tbl := zt_cons tkX11_put (zt_app toX11_put zt_nil)
set_option maxRecDepth 20000 in
theorem toX11_at : ∀ w ∈ woX11_at, w ∈ lw_tbl := z_at [] (by decide +kernel)
set_option maxRecDepth 20000 in
theorem tkX11_at : Cond.code yX11_at cX11_at 2 (some .int) ∈ lw_tbl := List.mem_of_getElem? (i := 845) rfl
theorem wtX11_at : ∀ w ∈ wzX11_at, w ∈ lw_tbl := zt_cons tkX11_at (zt_app toX11_at zt_nil)
set_option maxRecDepth 20000 in
theorem toX11_cut : ∀ w ∈ woX11_cut, w ∈ lw_tbl := z_at [557] (by decide +kernel)
set_option maxRecDepth 20000 in
theorem tkX11_cut : Cond.code yX11_cut cX11_cut 3 (some .int) ∈ lw_tbl := List.mem_of_getElem? (i := 594) rfl
theorem wtX11_cut : ∀ w ∈ wzX11_cut, w ∈ lw_tbl := zt_cons tkX11_cut (zt_app toX11_cut (zt_app wtcX11 zt_nil))
set_option maxRecDepth 20000 in
theorem toX11_fault : ∀ w ∈ woX11_fault, w ∈ lw_tbl := z_at [558] (by decide +kernel)
set_option maxRecDepth 20000 in
theorem tkX11_fault : Cond.code yX11_fault cX11_fault 1 (some .int) ∈ lw_tbl := List.mem_of_getElem? (i := 1203) rfl
theorem wtX11_fault : ∀ w ∈ wzX11_fault, w ∈ lw_tbl := zt_cons tkX11_fault (zt_app toX11_fault (zt_app wtcX11 zt_nil))
set_option maxRecDepth 20000 in
theorem toX11_run : ∀ w ∈ woX11_run, w ∈ lw_tbl := z_at [559] (by decide +kernel)
set_option maxRecDepth 20000 in
theorem tkX11_run : Cond.code yX11_run cX11_run 3 (some .int) ∈ lw_tbl := List.mem_of_getElem? (i := 1211) rfl
theorem wtX11_run : ∀ w ∈ wzX11_run, w ∈ lw_tbl := zt_cons tkX11_run (zt_app toX11_run (zt_app wtcX11 zt_nil))
set_option maxRecDepth 20000 in
theorem toX11_program : ∀ w ∈ woX11_program, w ∈ lw_tbl := z_at [559] (by decide +kernel)
set_option maxRecDepth 20000 in
theorem tkX11_program : Cond.code yX11_program cX11_program 2 (some .int) ∈ lw_tbl := List.mem_of_getElem? (i := 1207) rfl
theorem wtX11_program : ∀ w ∈ wzX11_program, w ∈ lw_tbl := zt_cons tkX11_program (zt_app toX11_program (zt_app wtcX11 zt_nil))
set_option maxRecDepth 20000 in
theorem toX11_ran : ∀ w ∈ woX11_ran, w ∈ lw_tbl := z_at [560] (by decide +kernel)
set_option maxRecDepth 20000 in
theorem tkX11_ran : Cond.code yX11_ran cX11_ran 2 (some .int) ∈ lw_tbl := List.mem_of_getElem? (i := 1411) rfl
theorem wtX11_ran : ∀ w ∈ wzX11_ran, w ∈ lw_tbl := zt_cons tkX11_ran (zt_app toX11_ran (zt_app wtcX11 zt_nil))
set_option maxRecDepth 20000 in
theorem toX11_trace : ∀ w ∈ woX11_trace, w ∈ lw_tbl := z_at [560] (by decide +kernel)
set_option maxRecDepth 20000 in
theorem tkX11_trace : Cond.code yX11_trace cX11_trace 3 (some .int) ∈ lw_tbl := List.mem_of_getElem? (i := 1423) rfl
theorem wtX11_trace : ∀ w ∈ wzX11_trace, w ∈ lw_tbl := zt_cons tkX11_trace (zt_app toX11_trace (zt_app wtcX11 zt_nil))
set_option maxRecDepth 20000 in
theorem toX11_suppressed : ∀ w ∈ woX11_suppressed, w ∈ lw_tbl := z_at [560] (by decide +kernel)
set_option maxRecDepth 20000 in
theorem tkX11_suppressed : Cond.code yX11_suppressed cX11_suppressed 4 (some .int) ∈ lw_tbl := List.mem_of_getElem? (i := 1428) rfl
theorem wtX11_suppressed : ∀ w ∈ wzX11_suppressed, w ∈ lw_tbl := zt_cons tkX11_suppressed (zt_app toX11_suppressed (zt_app wtcX11 zt_nil))
set_option maxRecDepth 20000 in
theorem toX11_asserts : ∀ w ∈ woX11_asserts, w ∈ lw_tbl := z_at [553] (by decide +kernel)
set_option maxRecDepth 20000 in
theorem tkX11_asserts : Cond.code yX11_asserts cX11_asserts 3 (some .int) ∈ lw_tbl := List.mem_of_getElem? (i := 627) rfl
theorem wtX11_asserts : ∀ w ∈ wzX11_asserts, w ∈ lw_tbl := zt_cons tkX11_asserts (zt_app toX11_asserts (zt_app wtcX11 (zt_app wtcX10 zt_nil)))
set_option maxRecDepth 20000 in
theorem toX10_isKind : ∀ w ∈ woX10_isKind, w ∈ lw_tbl := z_at [204] (by decide +kernel)
set_option maxRecDepth 20000 in
theorem tkX10_isKind : Cond.code yX10_isKind cX10_isKind 2 (some .boolean) ∈ lw_tbl := List.mem_of_getElem? (i := 602) rfl
theorem wtX10_isKind : ∀ w ∈ wzX10_isKind, w ∈ lw_tbl := zt_cons tkX10_isKind (zt_app toX10_isKind (zt_app wtcX10 zt_nil))
set_option maxRecDepth 20000 in
theorem toX10_isFull : ∀ w ∈ woX10_isFull, w ∈ lw_tbl := z_at [204] (by decide +kernel)
set_option maxRecDepth 20000 in
theorem tkX10_isFull : Cond.code yX10_isFull cX10_isFull 1 (some .boolean) ∈ lw_tbl := List.mem_of_getElem? (i := 606) rfl
theorem wtX10_isFull : ∀ w ∈ wzX10_isFull, w ∈ lw_tbl := zt_cons tkX10_isFull (zt_app toX10_isFull (zt_app wtcX10 zt_nil))
set_option maxRecDepth 20000 in
theorem toX10_addKind : ∀ w ∈ woX10_addKind, w ∈ lw_tbl := z_at [197, 204, 161, 589] (by decide +kernel)
set_option maxRecDepth 20000 in
theorem tkX10_addKind : Cond.code yX10_addKind cX10_addKind 2 (some .int) ∈ lw_tbl := List.mem_of_getElem? (i := 610) rfl
theorem wtX10_addKind : ∀ w ∈ wzX10_addKind, w ∈ lw_tbl := zt_cons tkX10_addKind (zt_app toX10_addKind (zt_app wtcX10 (zt_app wtX11_put zt_nil)))
set_option maxRecDepth 20000 in
theorem toX11_kind : ∀ w ∈ woX11_kind, w ∈ lw_tbl := z_at [553, 599, 600, 601, 162, 603, 604, 605, 607, 608, 609] (by decide +kernel)
set_option maxRecDepth 20000 in
theorem tkX11_kind : Cond.code yX11_kind cX11_kind 2 (some .int) ∈ lw_tbl := List.mem_of_getElem? (i := 598) rfl
theorem wtX11_kind : ∀ w ∈ wzX11_kind, w ∈ lw_tbl := zt_cons tkX11_kind (zt_app toX11_kind (zt_app wtcX11 (zt_app wtX10_isKind (zt_app wtX10_isFull (zt_app wtX10_addKind zt_nil)))))
set_option maxRecDepth 20000 in
theorem toX11_isKindOrNothing : ∀ w ∈ woX11_isKindOrNothing, w ∈ lw_tbl := z_at [553, 599, 600, 601, 162] (by decide +kernel)
set_option maxRecDepth 20000 in
theorem tkX11_isKindOrNothing : Cond.code yX11_isKindOrNothing cX11_isKindOrNothing 2 (some .boolean) ∈ lw_tbl := List.mem_of_getElem? (i := 619) rfl
theorem wtX11_isKindOrNothing : ∀ w ∈ wzX11_isKindOrNothing, w ∈ lw_tbl := zt_cons tkX11_isKindOrNothing (zt_app toX11_isKindOrNothing (zt_app wtcX11 (zt_app wtX10_isKind zt_nil)))
set_option maxRecDepth 20000 in
theorem toX10_tellResource : ∀ w ∈ woX10_tellResource, w ∈ lw_tbl := z_at [198, 161, 589, 200, 202] (by decide +kernel)
set_option maxRecDepth 20000 in
theorem tkX10_tellResource : Cond.code yX10_tellResource cX10_tellResource 5 none ∈ lw_tbl := List.mem_of_getElem? (i := 623) rfl
theorem wtX10_tellResource : ∀ w ∈ wzX10_tellResource, w ∈ lw_tbl := zt_cons tkX10_tellResource (zt_app toX10_tellResource (zt_app wtcX10 (zt_app wtX11_put zt_nil)))
set_option maxRecDepth 20000 in
theorem toX11_resource : ∀ w ∈ woX11_resource, w ∈ lw_tbl := z_at [553, 616, 618, 1, 161, 620, 621, 622, 162] (by decide +kernel)
set_option maxRecDepth 20000 in
theorem tkX11_resource : Cond.code yX11_resource cX11_resource 5 (some .int) ∈ lw_tbl := List.mem_of_getElem? (i := 615) rfl
theorem wtX11_resource : ∀ w ∈ wzX11_resource, w ∈ lw_tbl := zt_cons tkX11_resource (zt_app toX11_resource (zt_app wtcX11 (zt_app wtX11_isKindOrNothing (zt_app wtX10_tellResource zt_nil))))
set_option maxRecDepth 20000 in
theorem toX10_isUnder : ∀ w ∈ woX10_isUnder, w ∈ lw_tbl := z_at [197, 161, 844] (by decide +kernel)
set_option maxRecDepth 20000 in
theorem tkX10_isUnder : Cond.code yX10_isUnder cX10_isUnder 5 (some .boolean) ∈ lw_tbl := List.mem_of_getElem? (i := 1161) rfl
theorem wtX10_isUnder : ∀ w ∈ wzX10_isUnder, w ∈ lw_tbl := zt_cons tkX10_isUnder (zt_app toX10_isUnder (zt_app wtcX10 (zt_app wtX11_at zt_nil)))
set_option maxRecDepth 20000 in
theorem toX11_under : ∀ w ∈ woX11_under, w ∈ lw_tbl := z_at [553, 599, 600, 601, 162, 1434, 1159, 1160] (by decide +kernel)
set_option maxRecDepth 20000 in
theorem tkX11_under : Cond.code yX11_under cX11_under 3 (some .int) ∈ lw_tbl := List.mem_of_getElem? (i := 1433) rfl
theorem wtX11_under : ∀ w ∈ wzX11_under, w ∈ lw_tbl := zt_cons tkX11_under (zt_app toX11_under (zt_app wtcX11 (zt_app wtX10_isKind (zt_app wtX10_isUnder zt_nil))))
set_option maxRecDepth 20000 in
theorem toX11_addBytes : ∀ w ∈ woX11_addBytes, w ∈ lw_tbl := z_at [552, 557, 588, 589, 161] (by decide +kernel)
set_option maxRecDepth 20000 in
theorem tkX11_addBytes : Cond.code yX11_addBytes cX11_addBytes 3 none ∈ lw_tbl := List.mem_of_getElem? (i := 587) rfl
theorem wtX11_addBytes : ∀ w ∈ wzX11_addBytes, w ∈ lw_tbl := zt_cons tkX11_addBytes (zt_app toX11_addBytes (zt_app wtcX11 (zt_app wtX11_put zt_nil)))
set_option maxRecDepth 20000 in
theorem toX11_feed : ∀ w ∈ woX11_feed, w ∈ lw_tbl := z_at [557, 584, 586, 0, 161] (by decide +kernel)
set_option maxRecDepth 20000 in
theorem tkX11_feed : Cond.code yX11_feed cX11_feed 6 (some .int) ∈ lw_tbl := List.mem_of_getElem? (i := 583) rfl
theorem wtX11_feed : ∀ w ∈ wzX11_feed, w ∈ lw_tbl := zt_cons tkX11_feed (zt_app toX11_feed (zt_app wtcX11 (zt_app wtX11_addBytes zt_nil)))
set_option maxRecDepth 20000 in
theorem toX0_clear : ∀ w ∈ woX0_clear, w ∈ lw_tbl := z_at [235, 236, 237, 241, 242, 245, 248, 251] (by decide +kernel)
set_option maxRecDepth 20000 in
theorem tkX0_clear : Cond.code yX0_clear cX0_clear 1 none ∈ lw_tbl := List.mem_of_getElem? (i := 639) rfl
theorem wtX0_clear : ∀ w ∈ wzX0_clear, w ∈ lw_tbl := zt_cons tkX0_clear (zt_app toX0_clear (zt_app wtcX0 zt_nil))
set_option maxRecDepth 20000 in
theorem toX0_newCells : ∀ w ∈ woX0_newCells, w ∈ lw_tbl := z_at [241] (by decide +kernel)
set_option maxRecDepth 20000 in
theorem tkX0_newCells : Cond.code yX0_newCells cX0_newCells 2 (some .int) ∈ lw_tbl := List.mem_of_getElem? (i := 644) rfl
theorem wtX0_newCells : ∀ w ∈ wzX0_newCells, w ∈ lw_tbl := zt_cons tkX0_newCells (zt_app toX0_newCells (zt_app wtcX0 zt_nil))
set_option maxRecDepth 20000 in
theorem toX0_add : ∀ w ∈ woX0_add, w ∈ lw_tbl := z_at [227, 235, 161, 589, 229] (by decide +kernel)
set_option maxRecDepth 20000 in
theorem tkX0_add : Cond.code yX0_add cX0_add 3 none ∈ lw_tbl := List.mem_of_getElem? (i := 838) rfl
theorem wtX0_add : ∀ w ∈ wzX0_add, w ∈ lw_tbl := zt_cons tkX0_add (zt_app toX0_add (zt_app wtcX0 (zt_app wtX11_put zt_nil)))
set_option maxRecDepth 20000 in
theorem toX4_add : ∀ w ∈ woX4_add, w ∈ lw_tbl := z_at [389, 386, 387, 388] (by decide +kernel)
set_option maxRecDepth 20000 in
theorem tkX4_add : Cond.code yX4_add cX4_add 5 none ∈ lw_tbl := List.mem_of_getElem? (i := 648) rfl
theorem wtX4_add : ∀ w ∈ wzX4_add, w ∈ lw_tbl := zt_cons tkX4_add (zt_app toX4_add (zt_app wtcX4 zt_nil))
set_option maxRecDepth 20000 in
theorem toX6_clear : ∀ w ∈ woX6_clear, w ∈ lw_tbl := z_at [410, 412, 413, 415] (by decide +kernel)
set_option maxRecDepth 20000 in
theorem tkX6_clear : Cond.code yX6_clear cX6_clear 1 none ∈ lw_tbl := List.mem_of_getElem? (i := 653) rfl
theorem wtX6_clear : ∀ w ∈ wzX6_clear, w ∈ lw_tbl := zt_cons tkX6_clear (zt_app toX6_clear (zt_app wtcX6 zt_nil))
set_option maxRecDepth 20000 in
theorem toX9_byteAt : ∀ w ∈ woX9_byteAt, w ∈ lw_tbl := z_at [340] (by decide +kernel)
set_option maxRecDepth 20000 in
theorem tkX9_byteAt : Cond.code yX9_byteAt cX9_byteAt 2 (some .int) ∈ lw_tbl := List.mem_of_getElem? (i := 665) rfl
theorem wtX9_byteAt : ∀ w ∈ wzX9_byteAt, w ∈ lw_tbl := zt_cons tkX9_byteAt (zt_app toX9_byteAt (zt_app wtcX9 zt_nil))
set_option maxRecDepth 20000 in
theorem toX9_advance : ∀ w ∈ woX9_advance, w ∈ lw_tbl := z_at [341, 346, 340, 342, 662, 664, 2, 166] (by decide +kernel)
set_option maxRecDepth 20000 in
theorem tkX9_advance : Cond.code yX9_advance cX9_advance 2 none ∈ lw_tbl := List.mem_of_getElem? (i := 661) rfl
theorem wtX9_advance : ∀ w ∈ wzX9_advance, w ∈ lw_tbl := zt_cons tkX9_advance (zt_app toX9_advance (zt_app wtcX9 (zt_app wtX9_byteAt zt_nil)))
set_option maxRecDepth 20000 in
theorem toX9_start : ∀ w ∈ woX9_start, w ∈ lw_tbl := z_at [340, 341, 658, 659, 660, 166] (by decide +kernel)
set_option maxRecDepth 20000 in
theorem tkX9_start : Cond.code yX9_start cX9_start 2 none ∈ lw_tbl := List.mem_of_getElem? (i := 657) rfl
theorem wtX9_start : ∀ w ∈ wzX9_start, w ∈ lw_tbl := zt_cons tkX9_start (zt_app toX9_start (zt_app wtcX9 (zt_app wtX9_advance zt_nil)))
set_option maxRecDepth 20000 in
theorem toX5_init : ∀ w ∈ woX5_init, w ∈ lw_tbl := z_at [712, 189, 190] (by decide +kernel)
set_option maxRecDepth 20000 in
theorem tkX5_init : Cond.code yX5_init cX5_init 1 none ∈ lw_tbl := List.mem_of_getElem? (i := 711) rfl
theorem wtX5_init : ∀ w ∈ wzX5_init, w ∈ lw_tbl := zt_cons tkX5_init (zt_app toX5_init zt_nil)
set_option maxRecDepth 20000 in
theorem toX6_push : ∀ w ∈ woX6_push, w ∈ lw_tbl := z_at [410, 408, 705, 706, 175, 707, 406, 708, 176, 710, 412, 413] (by decide +kernel)
set_option maxRecDepth 20000 in
theorem tkX6_push : Cond.code yX6_push cX6_push 6 (some (.object "StatementRules2$Open")) ∈ lw_tbl := List.mem_of_getElem? (i := 704) rfl
theorem wtX6_push : ∀ w ∈ wzX6_push, w ∈ lw_tbl := zt_cons tkX6_push (zt_app toX6_push (zt_app wtcX6 (zt_app wtcX5 (zt_app wtX5_init zt_nil))))
set_option maxRecDepth 20000 in
theorem toX6_row : ∀ w ∈ woX6_row, w ∈ lw_tbl := z_at [410, 408] (by decide +kernel)
set_option maxRecDepth 20000 in
theorem tkX6_row : Cond.code yX6_row cX6_row 2 (some (.object "StatementRules2$Open")) ∈ lw_tbl := List.mem_of_getElem? (i := 786) rfl
theorem wtX6_row : ∀ w ∈ wzX6_row, w ∈ lw_tbl := zt_cons tkX6_row (zt_app toX6_row (zt_app wtcX6 zt_nil))
set_option maxRecDepth 20000 in
theorem toX6_pop : ∀ w ∈ woX6_pop, w ∈ lw_tbl := z_at [410, 828, 829, 175, 830] (by decide +kernel)
set_option maxRecDepth 20000 in
theorem tkX6_pop : Cond.code yX6_pop cX6_pop 1 none ∈ lw_tbl := List.mem_of_getElem? (i := 827) rfl
theorem wtX6_pop : ∀ w ∈ wzX6_pop, w ∈ lw_tbl := zt_cons tkX6_pop (zt_app toX6_pop (zt_app wtcX6 zt_nil))
set_option maxRecDepth 20000 in
theorem toX5_isLoop : ∀ w ∈ woX5_isLoop, w ∈ lw_tbl := z_at [713] (by decide +kernel)
set_option maxRecDepth 20000 in
theorem tkX5_isLoop : Cond.code yX5_isLoop cX5_isLoop 1 (some .boolean) ∈ lw_tbl := List.mem_of_getElem? (i := 794) rfl
theorem wtX5_isLoop : ∀ w ∈ wzX5_isLoop, w ∈ lw_tbl := zt_cons tkX5_isLoop (zt_app toX5_isLoop (zt_app wtcX5 zt_nil))
set_option maxRecDepth 20000 in
theorem toX5_hasOneBody : ∀ w ∈ woX5_hasOneBody, w ∈ lw_tbl := z_at [713, 791, 792, 793, 176] (by decide +kernel)
set_option maxRecDepth 20000 in
theorem tkX5_hasOneBody : Cond.code yX5_hasOneBody cX5_hasOneBody 1 (some .boolean) ∈ lw_tbl := List.mem_of_getElem? (i := 790) rfl
theorem wtX5_hasOneBody : ∀ w ∈ wzX5_hasOneBody, w ∈ lw_tbl := zt_cons tkX5_hasOneBody (zt_app toX5_hasOneBody (zt_app wtcX5 (zt_app wtX5_isLoop zt_nil)))
set_option maxRecDepth 20000 in
theorem toX1_found : ∀ w ∈ woX1_found, w ∈ lw_tbl := z_at [434] (by decide +kernel)
set_option maxRecDepth 20000 in
theorem tkX1_found : Cond.code yX1_found cX1_found 2 (some .boolean) ∈ lw_tbl := List.mem_of_getElem? (i := 817) rfl
theorem wtX1_found : ∀ w ∈ wzX1_found, w ∈ lw_tbl := zt_cons tkX1_found (zt_app toX1_found (zt_app wtcX7 (zt_app wtcX9 zt_nil)))
set_option maxRecDepth 20000 in
theorem toX1_expect : ∀ w ∈ woX1_expect, w ∈ lw_tbl := z_at [434, 813, 815, 816, 814, 164, 818, 659, 660, 166] (by decide +kernel)
set_option maxRecDepth 20000 in
theorem tkX1_expect : Cond.code yX1_expect cX1_expect 2 none ∈ lw_tbl := List.mem_of_getElem? (i := 858) rfl
theorem wtX1_expect : ∀ w ∈ wzX1_expect, w ∈ lw_tbl := zt_cons tkX1_expect (zt_app toX1_expect (zt_app wtcX7 (zt_app wtX1_found (zt_app wtX9_advance zt_nil))))
set_option maxRecDepth 20000 in
theorem toX7_endList : ∀ w ∈ woX7_endList, w ∈ lw_tbl := z_at [438, 439, 431, 430, 853, 854, 856, 857, 164, 835, 836, 837, 163, 824, 825, 826, 172] (by decide +kernel)
set_option maxRecDepth 20000 in
theorem tkX7_endList : Cond.code yX7_endList cX7_endList 2 none ∈ lw_tbl := List.mem_of_getElem? (i := 1170) rfl
theorem wtX7_endList : ∀ w ∈ wzX7_endList, w ∈ lw_tbl := zt_cons tkX7_endList (zt_app toX7_endList (zt_app wtcX5 (zt_app wtcX7 (zt_app wtcX0 (zt_app wtX1_expect (zt_app wtX0_add (zt_app wtX6_pop zt_nil)))))))
set_option maxRecDepth 20000 in
theorem toX7_turns : ∀ w ∈ woX7_turns, w ∈ lw_tbl := z_at [446, 447, 430, 783, 784, 785, 172, 787, 788, 789, 176, 991, 992, 994, 814, 164, 1167, 1169, 46, 165] (by decide +kernel)
set_option maxRecDepth 20000 in
theorem tkX7_turns : Cond.code yX7_turns cX7_turns 4 none ∈ lw_tbl := List.mem_of_getElem? (i := 782) rfl
theorem wtX7_turns : ∀ w ∈ wzX7_turns, w ∈ lw_tbl := zt_cons tkX7_turns (zt_app toX7_turns (zt_app wtcX7 (zt_app wtcX6 (zt_app wtcX5 (zt_app wtX6_row (zt_app wtX5_hasOneBody (zt_app wtX1_found (zt_app wtX7_endList zt_nil))))))))
set_option maxRecDepth 20000 in
theorem toX7_translate : ∀ w ∈ woX7_translate, w ∈ lw_tbl := z_at [438, 439, 444, 445, 640, 649, 430, 446, 447, 449, 450, 453, 454, 431, 432, 433, 435, 436, 636, 637, 638, 163, 641, 642, 643, 645, 646, 647, 171, 650, 651, 652, 172, 654, 655, 656, 166, 701, 702, 703, 779, 781, 7, 165] (by decide +kernel)
set_option maxRecDepth 20000 in
theorem tkX7_translate : Cond.code yX7_translate cX7_translate 2 (some .int) ∈ lw_tbl := List.mem_of_getElem? (i := 635) rfl
theorem wtX7_translate : ∀ w ∈ wzX7_translate, w ∈ lw_tbl := zt_cons tkX7_translate (zt_app toX7_translate (zt_app wtcX7 (zt_app wtcX4 (zt_app wtX0_clear (zt_app wtX0_newCells (zt_app wtX4_add (zt_app wtX6_clear (zt_app wtX9_start (zt_app wtX6_push (zt_app wtX7_turns zt_nil))))))))))
set_option maxRecDepth 20000 in
theorem toX11_read : ∀ w ∈ woX11_read, w ∈ lw_tbl := z_at [557, 560, 555, 558, 559, 554, 632, 633, 634, 165] (by decide +kernel)
set_option maxRecDepth 20000 in
theorem tkX11_read : Cond.code yX11_read cX11_read 2 (some .int) ∈ lw_tbl := List.mem_of_getElem? (i := 631) rfl
theorem wtX11_read : ∀ w ∈ wzX11_read, w ∈ lw_tbl := zt_cons tkX11_read (zt_app toX11_read (zt_app wtcX11 (zt_app wtcX0 (zt_app wtX7_translate zt_nil))))
set_option maxRecDepth 20000 in
theorem toX12_in : ∀ w ∈ woX12_in, w ∈ lw_tbl := z_at [] (by decide +kernel)
set_option maxRecDepth 20000 in
theorem tkX12_in : Cond.code yX12_in cX12_in 3 (some .boolean) ∈ lw_tbl := List.mem_of_getElem? (i := 1899) rfl
theorem wtX12_in : ∀ w ∈ wzX12_in, w ∈ lw_tbl := zt_cons tkX12_in (zt_app toX12_in zt_nil)
set_option maxRecDepth 20000 in
theorem toX12_thrown : ∀ w ∈ woX12_thrown, w ∈ lw_tbl := z_at [1535] (by decide +kernel)
set_option maxRecDepth 20000 in
theorem tkX12_thrown : Cond.code yX12_thrown cX12_thrown 1 (some .int) ∈ lw_tbl := List.mem_of_getElem? (i := 1888) rfl
theorem wtX12_thrown : ∀ w ∈ wzX12_thrown, w ∈ lw_tbl := zt_cons tkX12_thrown (zt_app toX12_thrown (zt_app wtcX12 zt_nil))
set_option maxRecDepth 20000 in
theorem toX12_cut : ∀ w ∈ woX12_cut, w ∈ lw_tbl := z_at [1535, 1537, 1897, 1898, 174] (by decide +kernel)
set_option maxRecDepth 20000 in
theorem tkX12_cut : Cond.code yX12_cut cX12_cut 3 (some .int) ∈ lw_tbl := List.mem_of_getElem? (i := 1896) rfl
theorem wtX12_cut : ∀ w ∈ wzX12_cut, w ∈ lw_tbl := zt_cons tkX12_cut (zt_app toX12_cut (zt_app wtcX12 (zt_app wtX12_in zt_nil)))
set_option maxRecDepth 20000 in
theorem toX12_fault : ∀ w ∈ woX12_fault, w ∈ lw_tbl := z_at [1535, 1611] (by decide +kernel)
set_option maxRecDepth 20000 in
theorem tkX12_fault : Cond.code yX12_fault cX12_fault 1 (some .int) ∈ lw_tbl := List.mem_of_getElem? (i := 2171) rfl
theorem wtX12_fault : ∀ w ∈ wzX12_fault, w ∈ lw_tbl := zt_cons tkX12_fault (zt_app toX12_fault (zt_app wtcX12 zt_nil))
set_option maxRecDepth 20000 in
theorem toX12_asserts : ∀ w ∈ woX12_asserts, w ∈ lw_tbl := z_at [1535, 1543] (by decide +kernel)
set_option maxRecDepth 20000 in
theorem tkX12_asserts : Cond.code yX12_asserts cX12_asserts 3 (some .int) ∈ lw_tbl := List.mem_of_getElem? (i := 1919) rfl
theorem wtX12_asserts : ∀ w ∈ wzX12_asserts, w ∈ lw_tbl := zt_cons tkX12_asserts (zt_app toX12_asserts (zt_app wtcX12 zt_nil))
set_option maxRecDepth 20000 in
theorem toX12_run : ∀ w ∈ woX12_run, w ∈ lw_tbl := z_at [1535, 1612] (by decide +kernel)
set_option maxRecDepth 20000 in
theorem tkX12_run : Cond.code yX12_run cX12_run 4 (some .int) ∈ lw_tbl := List.mem_of_getElem? (i := 2179) rfl
theorem wtX12_run : ∀ w ∈ wzX12_run, w ∈ lw_tbl := zt_cons tkX12_run (zt_app toX12_run (zt_app wtcX12 zt_nil))
set_option maxRecDepth 20000 in
theorem toX12_trace : ∀ w ∈ woX12_trace, w ∈ lw_tbl := z_at [1535, 1614] (by decide +kernel)
set_option maxRecDepth 20000 in
theorem tkX12_trace : Cond.code yX12_trace cX12_trace 3 (some .int) ∈ lw_tbl := List.mem_of_getElem? (i := 2251) rfl
theorem wtX12_trace : ∀ w ∈ wzX12_trace, w ∈ lw_tbl := zt_cons tkX12_trace (zt_app toX12_trace (zt_app wtcX12 zt_nil))
set_option maxRecDepth 20000 in
theorem toX12_suppressed : ∀ w ∈ woX12_suppressed, w ∈ lw_tbl := z_at [1535, 1614] (by decide +kernel)
set_option maxRecDepth 20000 in
theorem tkX12_suppressed : Cond.code yX12_suppressed cX12_suppressed 3 (some .int) ∈ lw_tbl := List.mem_of_getElem? (i := 2255) rfl
theorem wtX12_suppressed : ∀ w ∈ wzX12_suppressed, w ∈ lw_tbl := zt_cons tkX12_suppressed (zt_app toX12_suppressed (zt_app wtcX12 zt_nil))
set_option maxRecDepth 20000 in
theorem toX12_program : ∀ w ∈ woX12_program, w ∈ lw_tbl := z_at [1535, 1612, 1897, 1898, 174] (by decide +kernel)
set_option maxRecDepth 20000 in
theorem tkX12_program : Cond.code yX12_program cX12_program 2 (some .int) ∈ lw_tbl := List.mem_of_getElem? (i := 2175) rfl
theorem wtX12_program : ∀ w ∈ wzX12_program, w ∈ lw_tbl := zt_cons tkX12_program (zt_app toX12_program (zt_app wtcX12 (zt_app wtX12_in zt_nil)))
set_option maxRecDepth 20000 in
theorem toX12_ran : ∀ w ∈ woX12_ran, w ∈ lw_tbl := z_at [1535, 1614, 1897, 1898, 174] (by decide +kernel)
set_option maxRecDepth 20000 in
theorem tkX12_ran : Cond.code yX12_ran cX12_ran 5 (some .int) ∈ lw_tbl := List.mem_of_getElem? (i := 2247) rfl
theorem wtX12_ran : ∀ w ∈ wzX12_ran, w ∈ lw_tbl := zt_cons tkX12_ran (zt_app toX12_ran (zt_app wtcX12 (zt_app wtX12_in zt_nil)))
set_option maxRecDepth 20000 in
theorem toX12_kind : ∀ w ∈ woX12_kind, w ∈ lw_tbl := z_at [1535, 1538, 1539, 1897, 1898, 174] (by decide +kernel)
set_option maxRecDepth 20000 in
theorem tkX12_kind : Cond.code yX12_kind cX12_kind 2 (some .int) ∈ lw_tbl := List.mem_of_getElem? (i := 1903) rfl
theorem wtX12_kind : ∀ w ∈ wzX12_kind, w ∈ lw_tbl := zt_cons tkX12_kind (zt_app toX12_kind (zt_app wtcX12 (zt_app wtX12_in zt_nil)))
set_option maxRecDepth 20000 in
theorem toX12_isUnder : ∀ w ∈ woX12_isUnder, w ∈ lw_tbl := z_at [1539] (by decide +kernel)
set_option maxRecDepth 20000 in
theorem tkX12_isUnder : Cond.code yX12_isUnder cX12_isUnder 4 (some .boolean) ∈ lw_tbl := List.mem_of_getElem? (i := 1911) rfl
theorem wtX12_isUnder : ∀ w ∈ wzX12_isUnder, w ∈ lw_tbl := zt_cons tkX12_isUnder (zt_app toX12_isUnder (zt_app wtcX12 zt_nil))
set_option maxRecDepth 20000 in
theorem toX12_under : ∀ w ∈ woX12_under, w ∈ lw_tbl := z_at [1535, 1538, 1897, 1898, 174, 1908, 1910, 84] (by decide +kernel)
set_option maxRecDepth 20000 in
theorem tkX12_under : Cond.code yX12_under cX12_under 3 (some .int) ∈ lw_tbl := List.mem_of_getElem? (i := 1907) rfl
theorem wtX12_under : ∀ w ∈ wzX12_under, w ∈ lw_tbl := zt_cons tkX12_under (zt_app toX12_under (zt_app wtcX12 (zt_app wtX12_in (zt_app wtX12_isUnder zt_nil))))
set_option maxRecDepth 20000 in
theorem toX12_resource : ∀ w ∈ woX12_resource, w ∈ lw_tbl := z_at [1535, 1538, 1540, 1541, 1542, 1897, 1898, 174] (by decide +kernel)
set_option maxRecDepth 20000 in
theorem tkX12_resource : Cond.code yX12_resource cX12_resource 5 (some .int) ∈ lw_tbl := List.mem_of_getElem? (i := 1915) rfl
theorem wtX12_resource : ∀ w ∈ wzX12_resource, w ∈ lw_tbl := zt_cons tkX12_resource (zt_app toX12_resource (zt_app wtcX12 (zt_app wtX12_in zt_nil)))
set_option maxRecDepth 20000 in
theorem toX12_feed : ∀ w ∈ woX12_feed, w ∈ lw_tbl := z_at [1535, 1537, 1536] (by decide +kernel)
set_option maxRecDepth 20000 in
theorem tkX12_feed : Cond.code yX12_feed cX12_feed 8 (some .int) ∈ lw_tbl := List.mem_of_getElem? (i := 1892) rfl
theorem wtX12_feed : ∀ w ∈ wzX12_feed, w ∈ lw_tbl := zt_cons tkX12_feed (zt_app toX12_feed (zt_app wtcX12 zt_nil))
set_option maxRecDepth 20000 in
theorem toX12_see : ∀ w ∈ woX12_see, w ∈ lw_tbl := z_at [1574, 1573, 1575, 1577, 1576] (by decide +kernel)
set_option maxRecDepth 20000 in
theorem tkX12_see : Cond.code yX12_see cX12_see 4 (some .int) ∈ lw_tbl := List.mem_of_getElem? (i := 1928) rfl
theorem wtX12_see : ∀ w ∈ wzX12_see, w ∈ lw_tbl := zt_cons tkX12_see (zt_app toX12_see (zt_app wtcX12 zt_nil))
set_option maxRecDepth 20000 in
theorem toX12_at : ∀ w ∈ woX12_at, w ∈ lw_tbl := z_at [1537] (by decide +kernel)
set_option maxRecDepth 20000 in
theorem tkX12_at : Cond.code yX12_at cX12_at 2 (some .int) ∈ lw_tbl := List.mem_of_getElem? (i := 1937) rfl
theorem wtX12_at : ∀ w ∈ wzX12_at, w ∈ lw_tbl := zt_cons tkX12_at (zt_app toX12_at (zt_app wtcX12 zt_nil))
set_option maxRecDepth 20000 in
theorem toX12_next : ∀ w ∈ woX12_next, w ∈ lw_tbl := z_at [1550, 1552, 1547, 1537, 1546, 1545, 1934, 1936, 87, 174] (by decide +kernel)
set_option maxRecDepth 20000 in
theorem tkX12_next : Cond.code yX12_next cX12_next 2 none ∈ lw_tbl := List.mem_of_getElem? (i := 1933) rfl
theorem wtX12_next : ∀ w ∈ wzX12_next, w ∈ lw_tbl := zt_cons tkX12_next (zt_app toX12_next (zt_app wtcX12 (zt_app wtX12_at zt_nil)))
set_option maxRecDepth 20000 in
theorem toX12_push : ∀ w ∈ woX12_push, w ∈ lw_tbl := z_at [1598, 1599, 1600] (by decide +kernel)
set_option maxRecDepth 20000 in
theorem tkX12_push : Cond.code yX12_push cX12_push 2 none ∈ lw_tbl := List.mem_of_getElem? (i := 1959) rfl
theorem wtX12_push : ∀ w ∈ wzX12_push, w ∈ lw_tbl := zt_cons tkX12_push (zt_app toX12_push (zt_app wtcX12 zt_nil))
set_option maxRecDepth 20000 in
theorem toX12_over : ∀ w ∈ woX12_over, w ∈ lw_tbl := z_at [1610, 1598] (by decide +kernel)
set_option maxRecDepth 20000 in
theorem tkX12_over : Cond.code yX12_over cX12_over 2 none ∈ lw_tbl := List.mem_of_getElem? (i := 1967) rfl
theorem wtX12_over : ∀ w ∈ wzX12_over, w ∈ lw_tbl := zt_cons tkX12_over (zt_app toX12_over (zt_app wtcX12 zt_nil))
set_option maxRecDepth 20000 in
theorem toX12_list : ∀ w ∈ woX12_list, w ∈ lw_tbl := z_at [1600, 1601, 1545, 1964, 1966, 93, 174] (by decide +kernel)
set_option maxRecDepth 20000 in
theorem tkX12_list : Cond.code yX12_list cX12_list 2 none ∈ lw_tbl := List.mem_of_getElem? (i := 1963) rfl
theorem wtX12_list : ∀ w ∈ wzX12_list, w ∈ lw_tbl := zt_cons tkX12_list (zt_app toX12_list (zt_app wtcX12 (zt_app wtX12_over zt_nil)))
set_option maxRecDepth 20000 in
theorem toX12_parse : ∀ w ∈ woX12_parse, w ∈ lw_tbl := z_at [1598, 1550, 1599, 1956, 1958, 91, 174, 1960, 1962, 92] (by decide +kernel)
set_option maxRecDepth 20000 in
theorem tkX12_parse : Cond.code yX12_parse cX12_parse 1 none ∈ lw_tbl := List.mem_of_getElem? (i := 1955) rfl
theorem wtX12_parse : ∀ w ∈ wzX12_parse, w ∈ lw_tbl := zt_cons tkX12_parse (zt_app toX12_parse (zt_app wtcX12 (zt_app wtX12_push (zt_app wtX12_list zt_nil))))
set_option maxRecDepth 20000 in
theorem toX12_can : ∀ w ∈ woX12_can, w ∈ lw_tbl := z_at [1550, 1545] (by decide +kernel)
set_option maxRecDepth 20000 in
theorem tkX12_can : Cond.code yX12_can cX12_can 2 (some .boolean) ∈ lw_tbl := List.mem_of_getElem? (i := 1987) rfl
theorem wtX12_can : ∀ w ∈ wzX12_can, w ∈ lw_tbl := zt_cons tkX12_can (zt_app toX12_can (zt_app wtcX12 zt_nil))
set_option maxRecDepth 20000 in
theorem toX12_read : ∀ w ∈ woX12_read, w ∈ lw_tbl := z_at [1535, 1573, 1577, 1578, 1554, 1588, 1589, 1590, 1555, 1559, 1564, 1568, 1591, 1594, 1587, 1547, 1550, 1553, 1552, 1924, 1929, 1545, 1537, 1610, 1613, 1611, 1612, 1614, 1616, 1925, 1927, 85, 174, 1930, 1932, 86, 1952, 1954, 90, 1984, 1986, 98] (by decide +kernel)
set_option maxRecDepth 20000 in
theorem tkX12_read : Cond.code yX12_read cX12_read 1 (some .int) ∈ lw_tbl := List.mem_of_getElem? (i := 1923) rfl
theorem wtX12_read : ∀ w ∈ wzX12_read, w ∈ lw_tbl := zt_cons tkX12_read (zt_app toX12_read (zt_app wtcX12 (zt_app wtX12_see (zt_app wtX12_next (zt_app wtX12_parse (zt_app wtX12_can zt_nil))))))
set_option maxRecDepth 20000 in
theorem toX4_init : ∀ w ∈ woX4_init, w ∈ lw_tbl := z_at [385, 189, 190, 371, 386, 220, 387, 388] (by decide +kernel)
set_option maxRecDepth 20000 in
theorem tkX4_init : Cond.code yX4_init cX4_init 1 none ∈ lw_tbl := List.mem_of_getElem? (i := 384) rfl
theorem wtX4_init : ∀ w ∈ wzX4_init, w ∈ lw_tbl := zt_cons tkX4_init (zt_app toX4_init (zt_app wtcX4 zt_nil))
set_option maxRecDepth 20000 in
theorem toX6_init : ∀ w ∈ woX6_init, w ∈ lw_tbl := z_at [405, 189, 190, 406, 408, 220, 409] (by decide +kernel)
set_option maxRecDepth 20000 in
theorem tkX6_init : Cond.code yX6_init cX6_init 1 none ∈ lw_tbl := List.mem_of_getElem? (i := 404) rfl
theorem wtX6_init : ∀ w ∈ wzX6_init, w ∈ lw_tbl := zt_cons tkX6_init (zt_app toX6_init (zt_app wtcX6 zt_nil))
set_option maxRecDepth 20000 in
theorem toX0_init : ∀ w ∈ woX0_init, w ∈ lw_tbl := z_at [226, 189, 190, 220, 227, 229, 231, 233, 234] (by decide +kernel)
set_option maxRecDepth 20000 in
theorem tkX0_init : Cond.code yX0_init cX0_init 1 none ∈ lw_tbl := List.mem_of_getElem? (i := 225) rfl
theorem wtX0_init : ∀ w ∈ wzX0_init, w ∈ lw_tbl := zt_cons tkX0_init (zt_app toX0_init (zt_app wtcX0 zt_nil))
set_option maxRecDepth 20000 in
theorem toX10_init : ∀ w ∈ woX10_init, w ∈ lw_tbl := z_at [196, 189, 190, 220, 197, 198, 200, 202, 204] (by decide +kernel)
set_option maxRecDepth 20000 in
theorem tkX10_init : Cond.code yX10_init cX10_init 2 none ∈ lw_tbl := List.mem_of_getElem? (i := 195) rfl
theorem wtX10_init : ∀ w ∈ wzX10_init, w ∈ lw_tbl := zt_cons tkX10_init (zt_app toX10_init (zt_app wtcX10 zt_nil))
set_option maxRecDepth 20000 in
theorem toX1_init : ∀ w ∈ woX1_init, w ∈ lw_tbl := z_at [379, 189, 190, 380, 381, 171, 383, 443, 434, 437, 440] (by decide +kernel)
set_option maxRecDepth 20000 in
theorem tkX1_init : Cond.code yX1_init cX1_init 4 none ∈ lw_tbl := List.mem_of_getElem? (i := 378) rfl
theorem wtX1_init : ∀ w ∈ wzX1_init, w ∈ lw_tbl := zt_cons tkX1_init (zt_app toX1_init (zt_app wtcX4 (zt_app wtcX7 (zt_app wtX4_init zt_nil))))
set_option maxRecDepth 20000 in
theorem toX7_init : ∀ w ∈ woX7_init, w ∈ lw_tbl := z_at [164, 376, 377, 400, 401, 172, 403, 430] (by decide +kernel)
set_option maxRecDepth 20000 in
theorem tkX7_init : Cond.code yX7_init cX7_init 4 none ∈ lw_tbl := List.mem_of_getElem? (i := 375) rfl
theorem wtX7_init : ∀ w ∈ wzX7_init, w ∈ lw_tbl := zt_cons tkX7_init (zt_app toX7_init (zt_app wtcX6 (zt_app wtcX7 (zt_app wtX1_init (zt_app wtX6_init zt_nil)))))
set_option maxRecDepth 20000 in
theorem toX3_init : ∀ w ∈ woX3_init, w ∈ lw_tbl := z_at [484, 189, 190, 220, 491, 492, 485, 493, 487, 494, 495, 496, 489, 490] (by decide +kernel)
set_option maxRecDepth 20000 in
theorem tkX3_init : Cond.code yX3_init cX3_init 3 none ∈ lw_tbl := List.mem_of_getElem? (i := 483) rfl
theorem wtX3_init : ∀ w ∈ wzX3_init, w ∈ lw_tbl := zt_cons tkX3_init (zt_app toX3_init (zt_app wtcX3 zt_nil))
set_option maxRecDepth 20000 in
theorem toX12_init : ∀ w ∈ woX12_init, w ∈ lw_tbl := z_at [1509, 189, 190, 220, 1536, 1538, 1539, 1884, 1540, 1541, 1542, 371, 1510, 1511, 1512, 1513, 1514, 1515, 1516, 1517, 1518, 1519, 1520, 1521, 1522, 1523, 1524, 1525, 1526, 1527, 1528, 1529, 1530, 1531, 1532, 1533, 1534, 1544, 1556, 1557, 1558, 1560, 1561, 1562, 1563, 1565, 1566, 1567, 1569, 1570, 1571, 1572, 1574, 1575, 1576, 1579, 1580, 1581, 1582, 1583, 1584, 1585, 1586, 1592, 1593, 1595, 1596, 1597, 1599, 1600, 1601, 1602, 1603, 1604, 1605, 1606, 1607, 1608, 1609, 1617, 1618, 1619, 1621, 1622, 1623, 1624, 1625, 1626, 1629, 1631, 1633, 1635, 1636, 1637, 1638, 1639, 1640, 1641, 1642, 1643, 1644] (by decide +kernel)
set_option maxRecDepth 20000 in
theorem tkX12_init : Cond.code yX12_init cX12_init 1 none ∈ lw_tbl := List.mem_of_getElem? (i := 1508) rfl
theorem wtX12_init : ∀ w ∈ wzX12_init, w ∈ lw_tbl := zt_cons tkX12_init (zt_app toX12_init (zt_app wtcX12 zt_nil))
