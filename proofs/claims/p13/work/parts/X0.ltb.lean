theorem z_at {big ws : List Cond} (ps : List Nat) (hp : ws = ps.filterMap (fun i => big[i]?)) : ∀ w ∈ ws, w ∈ big := by
  intro w hw
  rw [hp] at hw
  obtain ⟨i, -, hi⟩ := List.mem_filterMap.mp hw
  exact List.mem_of_getElem? hi
def zSelL : List Cond := [.selects RX7 ⟨"StatementRules2$Formulas", "arm", "(III)I"⟩ yX1_arm, .selects RX7 ⟨"StatementRules2$Formulas", "conjunction", "()Z"⟩ yX1_conjunction, .selects RX7 ⟨"StatementRules2$Formulas", "one", "()Z"⟩ yX1_one, .selects RX7 ⟨"StatementRules2$Formulas", "product", "()V"⟩ yX1_product, .selects RX7 ⟨"StatementRules2$Formulas", "loadName", "()V"⟩ yX1_loadName, .selects RX7 ⟨"StatementRules2$Formulas", "negated", "()V"⟩ yX1_negated, .selects RX7 ⟨"StatementRules2$Formulas", "choice", "()V"⟩ yX1_choice, .selects RX7 ⟨"StatementRules2$Formulas", "factor", "()V"⟩ yX1_factor, .selects RX7 ⟨"StatementRules2$Formulas", "comparison", "()V"⟩ yX1_comparison]
/-- the tables, and what they say of hidden methods that a class below calls -/
def lw_tbl2 : List Cond := lw_tbl ++ zSelL
theorem z2_nil : ∀ w ∈ ([] : List Cond), w ∈ lw_tbl2 := fun _ h => absurd h List.not_mem_nil
theorem z2_cons {c : Cond} {l : List Cond} (hc : c ∈ lw_tbl2) (hl : ∀ w ∈ l, w ∈ lw_tbl2) : ∀ w ∈ c :: l, w ∈ lw_tbl2 := fun w h => (List.mem_cons.mp h).elim (fun e => by rw [e]; exact hc) (hl w)
theorem z2_app {a b : List Cond} (ha : ∀ w ∈ a, w ∈ lw_tbl2) (hb : ∀ w ∈ b, w ∈ lw_tbl2) : ∀ w ∈ a ++ b, w ∈ lw_tbl2 := fun w h => (List.mem_append.mp h).elim (ha w) (hb w)
theorem zsel {cls : String} {x0 y0 y : MethodName} {s : State} {args : Array Value} (h0 : (Cond.selects cls x0 y0).before args s = true) (hc : y0.cls = y.cls) (hy : y.cls ≠ "java/lang/invoke/MethodHandle" ∧ y.cls ≠ "java/lang/invoke/VarHandle") (hpriv : (Cond.privateMethod y).before args s = true) (hinst : (Cond.instanceMethod y).before args s = true) : (Cond.selects cls y y).before args s = true := by
  obtain ⟨c, r, m, hfc, -, hm, -, mk0, hk, hni⟩ := Cond.selects_spec h0
  obtain ⟨mk, methM, hnamed, hmethM, -, -⟩ := Cond.instanceMethod_spec hinst
  have hfound : s.methodFound? y.cls y.name y.desc = some mk := State.methodFound?_of_named hnamed hy
  have hcls : mk.cls = m.cls := by
    have e1 := findClass_of_methodNamed hnamed
    have e2 := findClass_of_methodNamed hm
    rw [hc] at e2
    exact Option.some.inj (e1.symm.trans e2)
  have hsel : selectMethod {} s.vm c mk = .method mk := selectMethod_private hmethM (Cond.privateMethod_at hpriv mk methM hnamed hmethM)
  simp only [Cond.before, Cond.holds, Cond.value, hfc, hfound, hnamed, hsel, hcls, hk]
  simp; exact hni
set_option maxRecDepth 20000 in
theorem wtcX0 : ∀ w ∈ wsX00, w ∈ lw_tbl2 := z_at [254, 256, 258, 260, 262, 264, 266, 268, 270, 272, 274, 276, 278] (by decide +kernel)
set_option maxRecDepth 20000 in
theorem wtcX10 : ∀ w ∈ wsX100, w ∈ lw_tbl2 := z_at [207, 209, 211, 213, 215, 217] (by decide +kernel)
set_option maxRecDepth 20000 in
theorem wtcX11 : ∀ w ∈ wsX110, w ∈ lw_tbl2 := z_at [561, 563, 565, 567, 569, 571, 573, 575, 577] (by decide +kernel)
set_option maxRecDepth 20000 in
theorem wtcX12 : ∀ w ∈ wsX120, w ∈ lw_tbl2 := z_at [1651, 1653, 1655, 1657, 1659, 1661, 1663, 1665, 1667, 1669, 1671, 1673, 1675, 1677, 1679, 1681, 1683, 1685, 1687, 1689, 1691, 1693, 1695, 1697, 1699, 1701, 1703, 1705, 1707, 1709, 1711, 1713, 1715, 1717, 1719, 1721, 1723, 1725, 1727, 1729, 1731, 1733, 1735, 1737, 1739, 1741, 1743, 1745, 1747, 1749, 1751, 1753, 1755, 1757, 1759, 1761, 1763, 1765, 1767, 1769, 1771, 1773, 1775, 1777, 1779, 1781, 1783, 1785, 1787, 1789, 1791, 1793, 1795, 1797, 1799, 1801, 1803, 1805, 1807, 1809, 1811, 1813, 1815, 1817, 1819, 1821, 1823, 1825, 1827, 1829, 1831, 1833, 1835, 1837, 1839, 1841, 1843, 1845, 1847, 1849, 1851, 1853, 1855, 1857, 1859, 1861, 1863, 1865, 1867, 1869, 1871, 1873, 1875, 1877, 1879, 1881] (by decide +kernel)
set_option maxRecDepth 20000 in
theorem wtcX2 : ∀ w ∈ wsX20, w ∈ lw_tbl2 := z_at [1337, 1339, 1341, 1343, 1345, 1347, 1349, 1351] (by decide +kernel)
set_option maxRecDepth 20000 in
theorem wtcX3 : ∀ w ∈ wsX30, w ∈ lw_tbl2 := z_at [511, 513, 515, 517, 519, 521, 523, 525, 527, 529, 531, 533, 535, 537, 539, 541, 543, 545, 547, 549] (by decide +kernel)
set_option maxRecDepth 20000 in
theorem wtcX4 : ∀ w ∈ wsX40, w ∈ lw_tbl2 := z_at [391, 393, 395, 397] (by decide +kernel)
set_option maxRecDepth 20000 in
theorem wtcX5 : ∀ w ∈ wsX50, w ∈ lw_tbl2 := z_at [744, 746, 748, 750, 752, 754, 756, 758, 760, 762, 764, 766, 768, 770, 772, 774, 776] (by decide +kernel)
set_option maxRecDepth 20000 in
theorem wtcX6 : ∀ w ∈ wsX60, w ∈ lw_tbl2 := z_at [417, 419, 421, 423, 425, 427] (by decide +kernel)
set_option maxRecDepth 20000 in
theorem wtcX7 : ∀ w ∈ wsX70, w ∈ lw_tbl2 := z_at [464, 466, 468, 470, 472, 474, 476, 456, 458, 460, 462] (by decide +kernel)
set_option maxRecDepth 20000 in
theorem wtcX8 : ∀ w ∈ wsX80, w ∈ lw_tbl2 := z_at [1268, 1270, 1272, 1274, 1276] (by decide +kernel)
set_option maxRecDepth 20000 in
theorem wtcX9 : ∀ w ∈ wsX90, w ∈ lw_tbl2 := z_at [354, 356, 358, 360, 362, 364, 366, 368] (by decide +kernel)
set_option maxRecDepth 20000 in
theorem wtcZT : ∀ w ∈ wsZT0, w ∈ lw_tbl2 := by decide +kernel
set_option maxRecDepth 20000 in
theorem toX12_in : ∀ w ∈ woX12_in, w ∈ lw_tbl2 := z_at [] (by decide +kernel)
set_option maxRecDepth 20000 in
theorem tkX12_in : Cond.code yX12_in cX12_in 3 (some .boolean) ∈ lw_tbl2 := List.mem_of_getElem? (i := 1895) rfl
theorem wtX12_in : ∀ w ∈ wzX12_in, w ∈ lw_tbl2 := z2_cons tkX12_in (z2_app toX12_in z2_nil)
set_option maxRecDepth 20000 in
theorem toX12_feed : ∀ w ∈ woX12_feed, w ∈ lw_tbl2 := z_at [1535, 1537, 1536] (by decide +kernel)
set_option maxRecDepth 20000 in
theorem tkX12_feed : Cond.code yX12_feed cX12_feed 8 (some .int) ∈ lw_tbl2 := List.mem_of_getElem? (i := 1888) rfl
theorem wtX12_feed : ∀ w ∈ wzX12_feed, w ∈ lw_tbl2 := z2_cons tkX12_feed (z2_app toX12_feed (z2_app wtcX12 z2_nil))
set_option maxRecDepth 20000 in
theorem toX12_cut : ∀ w ∈ woX12_cut, w ∈ lw_tbl2 := z_at [1535, 1537, 1893, 1894, 174] (by decide +kernel)
set_option maxRecDepth 20000 in
theorem tkX12_cut : Cond.code yX12_cut cX12_cut 3 (some .int) ∈ lw_tbl2 := List.mem_of_getElem? (i := 1892) rfl
theorem wtX12_cut : ∀ w ∈ wzX12_cut, w ∈ lw_tbl2 := z2_cons tkX12_cut (z2_app toX12_cut (z2_app wtcX12 (z2_app wtX12_in z2_nil)))
set_option maxRecDepth 20000 in
theorem toX12_kind : ∀ w ∈ woX12_kind, w ∈ lw_tbl2 := z_at [1535, 1538, 1539, 1893, 1894, 174] (by decide +kernel)
set_option maxRecDepth 20000 in
theorem tkX12_kind : Cond.code yX12_kind cX12_kind 2 (some .int) ∈ lw_tbl2 := List.mem_of_getElem? (i := 1899) rfl
theorem wtX12_kind : ∀ w ∈ wzX12_kind, w ∈ lw_tbl2 := z2_cons tkX12_kind (z2_app toX12_kind (z2_app wtcX12 (z2_app wtX12_in z2_nil)))
set_option maxRecDepth 20000 in
theorem toX12_isUnder : ∀ w ∈ woX12_isUnder, w ∈ lw_tbl2 := z_at [1539] (by decide +kernel)
set_option maxRecDepth 20000 in
theorem tkX12_isUnder : Cond.code yX12_isUnder cX12_isUnder 4 (some .boolean) ∈ lw_tbl2 := List.mem_of_getElem? (i := 1907) rfl
theorem wtX12_isUnder : ∀ w ∈ wzX12_isUnder, w ∈ lw_tbl2 := z2_cons tkX12_isUnder (z2_app toX12_isUnder (z2_app wtcX12 z2_nil))
set_option maxRecDepth 20000 in
theorem toX12_under : ∀ w ∈ woX12_under, w ∈ lw_tbl2 := z_at [1535, 1538, 1893, 1894, 174, 1904, 1906, 84] (by decide +kernel)
set_option maxRecDepth 20000 in
theorem tkX12_under : Cond.code yX12_under cX12_under 3 (some .int) ∈ lw_tbl2 := List.mem_of_getElem? (i := 1903) rfl
theorem wtX12_under : ∀ w ∈ wzX12_under, w ∈ lw_tbl2 := z2_cons tkX12_under (z2_app toX12_under (z2_app wtcX12 (z2_app wtX12_in (z2_app wtX12_isUnder z2_nil))))
set_option maxRecDepth 20000 in
theorem toX12_resource : ∀ w ∈ woX12_resource, w ∈ lw_tbl2 := z_at [1535, 1538, 1540, 1541, 1542, 1893, 1894, 174] (by decide +kernel)
set_option maxRecDepth 20000 in
theorem tkX12_resource : Cond.code yX12_resource cX12_resource 5 (some .int) ∈ lw_tbl2 := List.mem_of_getElem? (i := 1911) rfl
theorem wtX12_resource : ∀ w ∈ wzX12_resource, w ∈ lw_tbl2 := z2_cons tkX12_resource (z2_app toX12_resource (z2_app wtcX12 (z2_app wtX12_in z2_nil)))
set_option maxRecDepth 20000 in
theorem toX12_asserts : ∀ w ∈ woX12_asserts, w ∈ lw_tbl2 := z_at [1535, 1543] (by decide +kernel)
set_option maxRecDepth 20000 in
theorem tkX12_asserts : Cond.code yX12_asserts cX12_asserts 3 (some .int) ∈ lw_tbl2 := List.mem_of_getElem? (i := 1915) rfl
theorem wtX12_asserts : ∀ w ∈ wzX12_asserts, w ∈ lw_tbl2 := z2_cons tkX12_asserts (z2_app toX12_asserts (z2_app wtcX12 z2_nil))
set_option maxRecDepth 20000 in
theorem toX12_at : ∀ w ∈ woX12_at, w ∈ lw_tbl2 := z_at [1537, 1536] (by decide +kernel)
set_option maxRecDepth 20000 in
theorem tkX12_at : Cond.code yX12_at cX12_at 2 (some .int) ∈ lw_tbl2 := List.mem_of_getElem? (i := 1933) rfl
theorem wtX12_at : ∀ w ∈ wzX12_at, w ∈ lw_tbl2 := z2_cons tkX12_at (z2_app toX12_at (z2_app wtcX12 z2_nil))
set_option maxRecDepth 20000 in
theorem toX12_isLetter : ∀ w ∈ woX12_isLetter, w ∈ lw_tbl2 := z_at [] (by decide +kernel)
set_option maxRecDepth 20000 in
theorem tkX12_isLetter : Cond.code yX12_isLetter cX12_isLetter 1 (some .boolean) ∈ lw_tbl2 := List.mem_of_getElem? (i := 1939) rfl
theorem wtX12_isLetter : ∀ w ∈ wzX12_isLetter, w ∈ lw_tbl2 := z2_cons tkX12_isLetter (z2_app toX12_isLetter z2_nil)
set_option maxRecDepth 20000 in
theorem toX12_isDigit : ∀ w ∈ woX12_isDigit, w ∈ lw_tbl2 := z_at [] (by decide +kernel)
set_option maxRecDepth 20000 in
theorem tkX12_isDigit : Cond.code yX12_isDigit cX12_isDigit 1 (some .boolean) ∈ lw_tbl2 := List.mem_of_getElem? (i := 1936) rfl
theorem wtX12_isDigit : ∀ w ∈ wzX12_isDigit, w ∈ lw_tbl2 := z2_cons tkX12_isDigit (z2_app toX12_isDigit z2_nil)
set_option maxRecDepth 20000 in
theorem toX12_readName : ∀ w ∈ woX12_readName, w ∈ lw_tbl2 := z_at [1548, 1547, 1546, 1545, 1544, 1549, 1930, 1932, 87, 174, 1937, 1938, 1934, 1935, 1893, 1894] (by decide +kernel)
set_option maxRecDepth 20000 in
theorem tkX12_readName : Cond.code yX12_readName cX12_readName 5 none ∈ lw_tbl2 := List.mem_of_getElem? (i := 1943) rfl
theorem wtX12_readName : ∀ w ∈ wzX12_readName, w ∈ lw_tbl2 := z2_cons tkX12_readName (z2_app toX12_readName (z2_app wtcX12 (z2_app wtX12_at (z2_app wtX12_isLetter (z2_app wtX12_isDigit (z2_app wtX12_in z2_nil))))))
set_option maxRecDepth 20000 in
theorem toX12_readSign : ∀ w ∈ woX12_readSign, w ∈ lw_tbl2 := z_at [1547, 1545, 1930, 1932, 87, 174] (by decide +kernel)
set_option maxRecDepth 20000 in
theorem tkX12_readSign : Cond.code yX12_readSign cX12_readSign 5 none ∈ lw_tbl2 := List.mem_of_getElem? (i := 1947) rfl
theorem wtX12_readSign : ∀ w ∈ wzX12_readSign, w ∈ lw_tbl2 := z2_cons tkX12_readSign (z2_app toX12_readSign (z2_app wtcX12 (z2_app wtX12_at z2_nil)))
set_option maxRecDepth 20000 in
theorem toX12_next : ∀ w ∈ woX12_next, w ∈ lw_tbl2 := z_at [1550, 1552, 1547, 1537, 1546, 1549, 1545, 1930, 1932, 87, 174, 1934, 1935, 1937, 1938, 1944, 1946, 89, 1940, 1942, 88] (by decide +kernel)
set_option maxRecDepth 20000 in
theorem tkX12_next : Cond.code yX12_next cX12_next 2 none ∈ lw_tbl2 := List.mem_of_getElem? (i := 1929) rfl
theorem wtX12_next : ∀ w ∈ wzX12_next, w ∈ lw_tbl2 := z2_cons tkX12_next (z2_app toX12_next (z2_app wtcX12 (z2_app wtX12_at (z2_app wtX12_isDigit (z2_app wtX12_isLetter (z2_app wtX12_readSign (z2_app wtX12_readName z2_nil)))))))
set_option maxRecDepth 20000 in
theorem toX12_fail : ∀ w ∈ woX12_fail, w ∈ lw_tbl2 := z_at [1550, 1551] (by decide +kernel)
set_option maxRecDepth 20000 in
theorem tkX12_fail : Cond.code yX12_fail cX12_fail 3 none ∈ lw_tbl2 := List.mem_of_getElem? (i := 1987) rfl
theorem wtX12_fail : ∀ w ∈ wzX12_fail, w ∈ lw_tbl2 := z2_cons tkX12_fail (z2_app toX12_fail (z2_app wtcX12 z2_nil))
set_option maxRecDepth 20000 in
theorem toX12_note : ∀ w ∈ woX12_note, w ∈ lw_tbl2 := z_at [1550, 1553] (by decide +kernel)
set_option maxRecDepth 20000 in
theorem tkX12_note : Cond.code yX12_note cX12_note 2 none ∈ lw_tbl2 := List.mem_of_getElem? (i := 1967) rfl
theorem wtX12_note : ∀ w ∈ wzX12_note, w ∈ lw_tbl2 := z2_cons tkX12_note (z2_app toX12_note (z2_app wtcX12 z2_nil))
set_option maxRecDepth 20000 in
theorem toX12_can : ∀ w ∈ woX12_can, w ∈ lw_tbl2 := z_at [1550, 1545, 1546, 1984, 1986, 99, 174] (by decide +kernel)
set_option maxRecDepth 20000 in
theorem tkX12_can : Cond.code yX12_can cX12_can 2 (some .boolean) ∈ lw_tbl2 := List.mem_of_getElem? (i := 1983) rfl
theorem wtX12_can : ∀ w ∈ wzX12_can, w ∈ lw_tbl2 := z2_cons tkX12_can (z2_app toX12_can (z2_app wtcX12 (z2_app wtX12_fail z2_nil)))
set_option maxRecDepth 20000 in
theorem toX12_need : ∀ w ∈ woX12_need, w ∈ lw_tbl2 := z_at [1550, 1545, 1980, 1982, 98, 174, 1926, 1928, 86] (by decide +kernel)
set_option maxRecDepth 20000 in
theorem tkX12_need : Cond.code yX12_need cX12_need 2 (some .boolean) ∈ lw_tbl2 := List.mem_of_getElem? (i := 2003) rfl
theorem wtX12_need : ∀ w ∈ wzX12_need, w ∈ lw_tbl2 := z2_cons tkX12_need (z2_app toX12_need (z2_app wtcX12 (z2_app wtX12_can (z2_app wtX12_next z2_nil))))
set_option maxRecDepth 20000 in
theorem toX12_opens : ∀ w ∈ woX12_opens, w ∈ lw_tbl2 := z_at [1554, 1550, 1546, 1984, 1986, 99, 174] (by decide +kernel)
set_option maxRecDepth 20000 in
theorem tkX12_opens : Cond.code yX12_opens cX12_opens 1 (some .boolean) ∈ lw_tbl2 := List.mem_of_getElem? (i := 2015) rfl
theorem wtX12_opens : ∀ w ∈ wzX12_opens, w ∈ lw_tbl2 := z2_cons tkX12_opens (z2_app toX12_opens (z2_app wtcX12 (z2_app wtX12_fail z2_nil)))
set_option maxRecDepth 20000 in
theorem toX12_open : ∀ w ∈ woX12_open, w ∈ lw_tbl2 := z_at [1550, 1545, 1980, 1982, 98, 174, 2012, 2014, 106, 1926, 1928, 86] (by decide +kernel)
set_option maxRecDepth 20000 in
theorem tkX12_open : Cond.code yX12_open cX12_open 2 (some .boolean) ∈ lw_tbl2 := List.mem_of_getElem? (i := 2011) rfl
theorem wtX12_open : ∀ w ∈ wzX12_open, w ∈ lw_tbl2 := z2_cons tkX12_open (z2_app toX12_open (z2_app wtcX12 (z2_app wtX12_can (z2_app wtX12_opens (z2_app wtX12_next z2_nil)))))
set_option maxRecDepth 20000 in
theorem toX12_shut : ∀ w ∈ woX12_shut, w ∈ lw_tbl2 := z_at [1550, 1554, 2000, 2002, 103, 174] (by decide +kernel)
set_option maxRecDepth 20000 in
theorem tkX12_shut : Cond.code yX12_shut cX12_shut 2 (some .boolean) ∈ lw_tbl2 := List.mem_of_getElem? (i := 2019) rfl
theorem wtX12_shut : ∀ w ∈ wzX12_shut, w ∈ lw_tbl2 := z2_cons tkX12_shut (z2_app toX12_shut (z2_app wtcX12 (z2_app wtX12_need z2_nil)))
set_option maxRecDepth 20000 in
theorem toX12_emit : ∀ w ∈ woX12_emit, w ∈ lw_tbl2 := z_at [1555, 1556, 1557, 1558] (by decide +kernel)
set_option maxRecDepth 20000 in
theorem tkX12_emit : Cond.code yX12_emit cX12_emit 4 (some .int) ∈ lw_tbl2 := List.mem_of_getElem? (i := 1979) rfl
theorem wtX12_emit : ∀ w ∈ wzX12_emit, w ∈ lw_tbl2 := z2_cons tkX12_emit (z2_app toX12_emit (z2_app wtcX12 z2_nil))
set_option maxRecDepth 20000 in
theorem toX12_seenAs : ∀ w ∈ woX12_seenAs, w ∈ lw_tbl2 := z_at [1573, 1574] (by decide +kernel)
set_option maxRecDepth 20000 in
theorem tkX12_seenAs : Cond.code yX12_seenAs cX12_seenAs 4 (some .int) ∈ lw_tbl2 := List.mem_of_getElem? (i := 2031) rfl
theorem wtX12_seenAs : ∀ w ∈ wzX12_seenAs, w ∈ lw_tbl2 := z2_cons tkX12_seenAs (z2_app toX12_seenAs (z2_app wtcX12 z2_nil))
set_option maxRecDepth 20000 in
theorem toX12_see : ∀ w ∈ woX12_see, w ∈ lw_tbl2 := z_at [1574, 1573, 1575, 1577, 1576] (by decide +kernel)
set_option maxRecDepth 20000 in
theorem tkX12_see : Cond.code yX12_see cX12_see 4 (some .int) ∈ lw_tbl2 := List.mem_of_getElem? (i := 1924) rfl
theorem wtX12_see : ∀ w ∈ wzX12_see, w ∈ lw_tbl2 := z2_cons tkX12_see (z2_app toX12_see (z2_app wtcX12 z2_nil))
set_option maxRecDepth 20000 in
theorem toX12_goal : ∀ w ∈ woX12_goal, w ∈ lw_tbl2 := z_at [1579, 1578, 1580, 1581, 1582, 1587, 1583, 1584, 1585, 1586] (by decide +kernel)
set_option maxRecDepth 20000 in
theorem tkX12_goal : Cond.code yX12_goal cX12_goal 4 (some .int) ∈ lw_tbl2 := List.mem_of_getElem? (i := 2047) rfl
theorem wtX12_goal : ∀ w ∈ wzX12_goal, w ∈ lw_tbl2 := z2_cons tkX12_goal (z2_app toX12_goal (z2_app wtcX12 z2_nil))
set_option maxRecDepth 20000 in
theorem toX12_loopGoal : ∀ w ∈ woX12_loopGoal, w ∈ lw_tbl2 := z_at [1579, 1581, 2044, 2046, 114, 174] (by decide +kernel)
set_option maxRecDepth 20000 in
theorem tkX12_loopGoal : Cond.code yX12_loopGoal cX12_loopGoal 3 (some .int) ∈ lw_tbl2 := List.mem_of_getElem? (i := 2087) rfl
theorem wtX12_loopGoal : ∀ w ∈ wzX12_loopGoal, w ∈ lw_tbl2 := z2_cons tkX12_loopGoal (z2_app toX12_loopGoal (z2_app wtcX12 (z2_app wtX12_goal z2_nil)))
set_option maxRecDepth 20000 in
theorem toX12_patch : ∀ w ∈ woX12_patch, w ∈ lw_tbl2 := z_at [1557] (by decide +kernel)
set_option maxRecDepth 20000 in
theorem tkX12_patch : Cond.code yX12_patch cX12_patch 5 none ∈ lw_tbl2 := List.mem_of_getElem? (i := 2039) rfl
theorem wtX12_patch : ∀ w ∈ wzX12_patch, w ∈ lw_tbl2 := z2_cons tkX12_patch (z2_app toX12_patch (z2_app wtcX12 z2_nil))
set_option maxRecDepth 20000 in
theorem toX12_goes : ∀ w ∈ woX12_goes, w ∈ lw_tbl2 := z_at [1586, 1585] (by decide +kernel)
set_option maxRecDepth 20000 in
theorem tkX12_goes : Cond.code yX12_goes cX12_goes 3 none ∈ lw_tbl2 := List.mem_of_getElem? (i := 1999) rfl
theorem wtX12_goes : ∀ w ∈ wzX12_goes, w ∈ lw_tbl2 := z2_cons tkX12_goes (z2_app toX12_goes (z2_app wtcX12 z2_nil))
set_option maxRecDepth 20000 in
theorem toX12_pend : ∀ w ∈ woX12_pend, w ∈ lw_tbl2 := z_at [1591, 1593, 1595, 1594, 1596, 1597, 1592, 1996, 1998, 102, 174] (by decide +kernel)
set_option maxRecDepth 20000 in
theorem tkX12_pend : Cond.code yX12_pend cX12_pend 3 none ∈ lw_tbl2 := List.mem_of_getElem? (i := 1995) rfl
theorem wtX12_pend : ∀ w ∈ wzX12_pend, w ∈ lw_tbl2 := z2_cons tkX12_pend (z2_app toX12_pend (z2_app wtcX12 (z2_app wtX12_goes z2_nil)))
set_option maxRecDepth 20000 in
theorem toX12_resolve : ∀ w ∈ woX12_resolve, w ∈ lw_tbl2 := z_at [1594, 1597, 1595, 1591, 1596, 1593, 1592, 1996, 1998, 102, 174] (by decide +kernel)
set_option maxRecDepth 20000 in
theorem tkX12_resolve : Cond.code yX12_resolve cX12_resolve 6 none ∈ lw_tbl2 := List.mem_of_getElem? (i := 2139) rfl
theorem wtX12_resolve : ∀ w ∈ wzX12_resolve, w ∈ lw_tbl2 := z2_cons tkX12_resolve (z2_app toX12_resolve (z2_app wtcX12 (z2_app wtX12_goes z2_nil)))
set_option maxRecDepth 20000 in
theorem toX12_push : ∀ w ∈ woX12_push, w ∈ lw_tbl2 := z_at [1598, 1599, 1600] (by decide +kernel)
set_option maxRecDepth 20000 in
theorem tkX12_push : Cond.code yX12_push cX12_push 2 none ∈ lw_tbl2 := List.mem_of_getElem? (i := 1955) rfl
theorem wtX12_push : ∀ w ∈ wzX12_push, w ∈ lw_tbl2 := z2_cons tkX12_push (z2_app toX12_push (z2_app wtcX12 z2_nil))
set_option maxRecDepth 20000 in
theorem toX12_then : ∀ w ∈ woX12_then, w ∈ lw_tbl2 := z_at [1600, 1598, 1952, 1954, 91, 174] (by decide +kernel)
set_option maxRecDepth 20000 in
theorem tkX12_then : Cond.code yX12_then cX12_then 3 none ∈ lw_tbl2 := List.mem_of_getElem? (i := 1971) rfl
theorem wtX12_then : ∀ w ∈ wzX12_then, w ∈ lw_tbl2 := z2_cons tkX12_then (z2_app toX12_then (z2_app wtcX12 (z2_app wtX12_push z2_nil)))
set_option maxRecDepth 20000 in
theorem toX12_body : ∀ w ∈ woX12_body, w ∈ lw_tbl2 := z_at [1545, 1980, 1982, 98, 174, 1968, 1970, 95] (by decide +kernel)
set_option maxRecDepth 20000 in
theorem tkX12_body : Cond.code yX12_body cX12_body 2 none ∈ lw_tbl2 := List.mem_of_getElem? (i := 2051) rfl
theorem wtX12_body : ∀ w ∈ wzX12_body, w ∈ lw_tbl2 := z2_cons tkX12_body (z2_app toX12_body (z2_app wtcX12 (z2_app wtX12_can (z2_app wtX12_then z2_nil))))
set_option maxRecDepth 20000 in
theorem toX12_over : ∀ w ∈ woX12_over, w ∈ lw_tbl2 := z_at [1610, 1598] (by decide +kernel)
set_option maxRecDepth 20000 in
theorem tkX12_over : Cond.code yX12_over cX12_over 2 none ∈ lw_tbl2 := List.mem_of_getElem? (i := 1963) rfl
theorem wtX12_over : ∀ w ∈ wzX12_over, w ∈ lw_tbl2 := z2_cons tkX12_over (z2_app toX12_over (z2_app wtcX12 z2_nil))
set_option maxRecDepth 20000 in
theorem toX12_list : ∀ w ∈ woX12_list, w ∈ lw_tbl2 := z_at [1600, 1601, 1610, 1545, 1546, 1960, 1962, 93, 174, 1968, 1970, 95, 1964, 1966, 94] (by decide +kernel)
set_option maxRecDepth 20000 in
theorem tkX12_list : Cond.code yX12_list cX12_list 2 none ∈ lw_tbl2 := List.mem_of_getElem? (i := 1959) rfl
theorem wtX12_list : ∀ w ∈ wzX12_list, w ∈ lw_tbl2 := z2_cons tkX12_list (z2_app toX12_list (z2_app wtcX12 (z2_app wtX12_over (z2_app wtX12_then (z2_app wtX12_note z2_nil)))))
set_option maxRecDepth 20000 in
theorem toX12_jump : ∀ w ∈ woX12_jump, w ∈ lw_tbl2 := z_at [1545, 1546, 1590, 1578, 1584, 1558, 1582, 1583, 1581, 1579, 1580, 1548, 1926, 1928, 86, 174, 1976, 1978, 97, 1992, 1994, 101, 2000, 2002, 103, 1984, 1986, 99] (by decide +kernel)
set_option maxRecDepth 20000 in
theorem tkX12_jump : Cond.code yX12_jump cX12_jump 7 none ∈ lw_tbl2 := List.mem_of_getElem? (i := 1991) rfl
theorem wtX12_jump : ∀ w ∈ wzX12_jump, w ∈ lw_tbl2 := z2_cons tkX12_jump (z2_app toX12_jump (z2_app wtcX12 (z2_app wtX12_next (z2_app wtX12_emit (z2_app wtX12_pend (z2_app wtX12_need (z2_app wtX12_fail z2_nil)))))))
set_option maxRecDepth 20000 in
theorem toX12_stat : ∀ w ∈ woX12_stat, w ∈ lw_tbl2 := z_at [1588, 1545, 1599, 1980, 1982, 98, 174, 1976, 1978, 97, 1988, 1990, 100, 1960, 1962, 93, 1926, 1928, 86] (by decide +kernel)
set_option maxRecDepth 20000 in
theorem tkX12_stat : Cond.code yX12_stat cX12_stat 2 none ∈ lw_tbl2 := List.mem_of_getElem? (i := 1975) rfl
theorem wtX12_stat : ∀ w ∈ wzX12_stat, w ∈ lw_tbl2 := z2_cons tkX12_stat (z2_app toX12_stat (z2_app wtcX12 (z2_app wtX12_can (z2_app wtX12_emit (z2_app wtX12_jump (z2_app wtX12_over (z2_app wtX12_next z2_nil)))))))
set_option maxRecDepth 20000 in
theorem toX12_block : ∀ w ∈ woX12_block, w ∈ lw_tbl2 := z_at [1600, 1601, 1573, 1598, 2016, 2018, 107, 174, 2008, 2010, 105, 1968, 1970, 95] (by decide +kernel)
set_option maxRecDepth 20000 in
theorem tkX12_block : Cond.code yX12_block cX12_block 2 none ∈ lw_tbl2 := List.mem_of_getElem? (i := 2007) rfl
theorem wtX12_block : ∀ w ∈ wzX12_block, w ∈ lw_tbl2 := z2_cons tkX12_block (z2_app toX12_block (z2_app wtcX12 (z2_app wtX12_shut (z2_app wtX12_open (z2_app wtX12_then z2_nil)))))
set_option maxRecDepth 20000 in
theorem toX12_telling : ∀ w ∈ woX12_telling, w ∈ lw_tbl2 := z_at [1545, 1548, 1589, 1609, 1546, 1980, 1982, 98, 174, 2028, 2030, 110, 1926, 1928, 86, 1984, 1986, 99] (by decide +kernel)
set_option maxRecDepth 20000 in
theorem tkX12_telling : Cond.code yX12_telling cX12_telling 2 (some .boolean) ∈ lw_tbl2 := List.mem_of_getElem? (i := 2027) rfl
theorem wtX12_telling : ∀ w ∈ wzX12_telling, w ∈ lw_tbl2 := z2_cons tkX12_telling (z2_app toX12_telling (z2_app wtcX12 (z2_app wtX12_can (z2_app wtX12_seenAs (z2_app wtX12_next (z2_app wtX12_fail z2_nil))))))
set_option maxRecDepth 20000 in
theorem toX12_tell : ∀ w ∈ woX12_tell, w ∈ lw_tbl2 := z_at [1600, 1609, 1550, 1921, 1923, 85, 174, 1976, 1978, 97, 2000, 2002, 103, 1960, 1962, 93, 1926, 1928, 86, 2024, 2026, 109, 1968, 1970, 95] (by decide +kernel)
set_option maxRecDepth 20000 in
theorem tkX12_tell : Cond.code yX12_tell cX12_tell 2 none ∈ lw_tbl2 := List.mem_of_getElem? (i := 2023) rfl
theorem wtX12_tell : ∀ w ∈ wzX12_tell, w ∈ lw_tbl2 := z2_cons tkX12_tell (z2_app toX12_tell (z2_app wtcX12 (z2_app wtX12_see (z2_app wtX12_emit (z2_app wtX12_need (z2_app wtX12_over (z2_app wtX12_next (z2_app wtX12_telling (z2_app wtX12_then z2_nil)))))))))
set_option maxRecDepth 20000 in
theorem toX12_label : ∀ w ∈ woX12_label, w ∈ lw_tbl2 := z_at [1578, 1601, 1545, 1581, 1579, 1580, 2044, 2046, 114, 174, 1926, 1928, 86, 2048, 2050, 115, 1984, 1986, 99] (by decide +kernel)
set_option maxRecDepth 20000 in
theorem tkX12_label : Cond.code yX12_label cX12_label 7 none ∈ lw_tbl2 := List.mem_of_getElem? (i := 2043) rfl
theorem wtX12_label : ∀ w ∈ wzX12_label, w ∈ lw_tbl2 := z2_cons tkX12_label (z2_app toX12_label (z2_app wtcX12 (z2_app wtX12_goal (z2_app wtX12_next (z2_app wtX12_body (z2_app wtX12_fail z2_nil))))))
set_option maxRecDepth 20000 in
theorem toX12_got : ∀ w ∈ woX12_got, w ∈ lw_tbl2 := z_at [1576, 1575, 2028, 2030, 110, 174, 1984, 1986, 99] (by decide +kernel)
set_option maxRecDepth 20000 in
theorem tkX12_got : Cond.code yX12_got cX12_got 5 (some .int) ∈ lw_tbl2 := List.mem_of_getElem? (i := 2055) rfl
theorem wtX12_got : ∀ w ∈ wzX12_got, w ∈ lw_tbl2 := z2_cons tkX12_got (z2_app toX12_got (z2_app wtcX12 (z2_app wtX12_seenAs (z2_app wtX12_fail z2_nil))))
set_option maxRecDepth 20000 in
theorem toX12_named : ∀ w ∈ woX12_named, w ∈ lw_tbl2 := z_at [1600, 1548, 1546, 1545, 1550, 1601, 1583, 1555, 1578, 1610, 1585, 1926, 1928, 86, 174, 2052, 2054, 116, 1980, 1982, 98, 1976, 1978, 97, 1968, 1970, 95, 2000, 2002, 103, 1960, 1962, 93, 2040, 2042, 113, 2036, 2038, 112] (by decide +kernel)
set_option maxRecDepth 20000 in
theorem tkX12_named : Cond.code yX12_named cX12_named 7 none ∈ lw_tbl2 := List.mem_of_getElem? (i := 2035) rfl
theorem wtX12_named : ∀ w ∈ wzX12_named, w ∈ lw_tbl2 := z2_cons tkX12_named (z2_app toX12_named (z2_app wtcX12 (z2_app wtX12_next (z2_app wtX12_got (z2_app wtX12_can (z2_app wtX12_emit (z2_app wtX12_then (z2_app wtX12_need (z2_app wtX12_over (z2_app wtX12_label (z2_app wtX12_patch z2_nil)))))))))))
set_option maxRecDepth 20000 in
theorem toX12_isInArms : ∀ w ∈ woX12_isInArms, w ∈ lw_tbl2 := z_at [1578, 1579] (by decide +kernel)
set_option maxRecDepth 20000 in
theorem tkX12_isInArms : Cond.code yX12_isInArms cX12_isInArms 2 (some .boolean) ∈ lw_tbl2 := List.mem_of_getElem? (i := 2063) rfl
theorem wtX12_isInArms : ∀ w ∈ wzX12_isInArms, w ∈ lw_tbl2 := z2_cons tkX12_isInArms (z2_app toX12_isInArms (z2_app wtcX12 z2_nil))
set_option maxRecDepth 20000 in
theorem toX12_ending : ∀ w ∈ woX12_ending, w ∈ lw_tbl2 := z_at [1600, 1601, 1578, 1558, 1579, 1582, 1545, 1546, 1976, 1978, 97, 174, 2000, 2002, 103, 1960, 1962, 93, 1926, 1928, 86, 1968, 1970, 95, 2060, 2062, 118, 1984, 1986, 99] (by decide +kernel)
set_option maxRecDepth 20000 in
theorem tkX12_ending : Cond.code yX12_ending cX12_ending 4 none ∈ lw_tbl2 := List.mem_of_getElem? (i := 2059) rfl
theorem wtX12_ending : ∀ w ∈ wzX12_ending, w ∈ lw_tbl2 := z2_cons tkX12_ending (z2_app toX12_ending (z2_app wtcX12 (z2_app wtX12_emit (z2_app wtX12_need (z2_app wtX12_over (z2_app wtX12_next (z2_app wtX12_then (z2_app wtX12_isInArms (z2_app wtX12_fail z2_nil)))))))))
set_option maxRecDepth 20000 in
theorem toX12_throwing : ∀ w ∈ woX12_throwing, w ∈ lw_tbl2 := z_at [1600, 1545, 1548, 1546, 1576, 1575, 1549, 1538, 1601, 1926, 1928, 86, 174, 1980, 1982, 98, 2028, 2030, 110, 1984, 1986, 99, 1976, 1978, 97, 2000, 2002, 103, 1960, 1962, 93, 1968, 1970, 95] (by decide +kernel)
set_option maxRecDepth 20000 in
theorem tkX12_throwing : Cond.code yX12_throwing cX12_throwing 3 none ∈ lw_tbl2 := List.mem_of_getElem? (i := 2067) rfl
theorem wtX12_throwing : ∀ w ∈ wzX12_throwing, w ∈ lw_tbl2 := z2_cons tkX12_throwing (z2_app toX12_throwing (z2_app wtcX12 (z2_app wtX12_next (z2_app wtX12_can (z2_app wtX12_seenAs (z2_app wtX12_fail (z2_app wtX12_emit (z2_app wtX12_need (z2_app wtX12_over (z2_app wtX12_then z2_nil))))))))))
set_option maxRecDepth 20000 in
theorem toX12_asserted : ∀ w ∈ woX12_asserted, w ∈ lw_tbl2 := z_at [1600, 1601, 1602, 1545, 1557, 1555, 1926, 1928, 86, 174, 1976, 1978, 97, 1968, 1970, 95, 2000, 2002, 103, 1960, 1962, 93] (by decide +kernel)
set_option maxRecDepth 20000 in
theorem tkX12_asserted : Cond.code yX12_asserted cX12_asserted 2 none ∈ lw_tbl2 := List.mem_of_getElem? (i := 2071) rfl
theorem wtX12_asserted : ∀ w ∈ wzX12_asserted, w ∈ lw_tbl2 := z2_cons tkX12_asserted (z2_app toX12_asserted (z2_app wtcX12 (z2_app wtX12_next (z2_app wtX12_emit (z2_app wtX12_then (z2_app wtX12_need (z2_app wtX12_over z2_nil)))))))
set_option maxRecDepth 20000 in
theorem toX12_branch : ∀ w ∈ woX12_branch, w ∈ lw_tbl2 := z_at [1600, 1601, 1545, 1557, 1555, 1602, 1610, 1603, 1926, 1928, 86, 174, 2008, 2010, 105, 1968, 1970, 95, 2016, 2018, 107, 1976, 1978, 97, 2048, 2050, 115, 1960, 1962, 93] (by decide +kernel)
set_option maxRecDepth 20000 in
theorem tkX12_branch : Cond.code yX12_branch cX12_branch 2 none ∈ lw_tbl2 := List.mem_of_getElem? (i := 2075) rfl
theorem wtX12_branch : ∀ w ∈ wzX12_branch, w ∈ lw_tbl2 := z2_cons tkX12_branch (z2_app toX12_branch (z2_app wtcX12 (z2_app wtX12_next (z2_app wtX12_open (z2_app wtX12_then (z2_app wtX12_shut (z2_app wtX12_emit (z2_app wtX12_body (z2_app wtX12_over z2_nil)))))))))
set_option maxRecDepth 20000 in
theorem toX12_isJustTrue : ∀ w ∈ woX12_isJustTrue, w ∈ lw_tbl2 := z_at [1552] (by decide +kernel)
set_option maxRecDepth 20000 in
theorem tkX12_isJustTrue : Cond.code yX12_isJustTrue cX12_isJustTrue 2 (some .boolean) ∈ lw_tbl2 := List.mem_of_getElem? (i := 2083) rfl
theorem wtX12_isJustTrue : ∀ w ∈ wzX12_isJustTrue, w ∈ lw_tbl2 := z2_cons tkX12_isJustTrue (z2_app toX12_isJustTrue (z2_app wtcX12 z2_nil))
set_option maxRecDepth 20000 in
theorem toX12_whiles : ∀ w ∈ woX12_whiles, w ∈ lw_tbl2 := z_at [1600, 1601, 1555, 1604, 1545, 1552, 1606, 1602, 1603, 1584, 1557, 1583, 1578, 1585, 1926, 1928, 86, 174, 2008, 2010, 105, 1968, 1970, 95, 2080, 2082, 123, 2016, 2018, 107, 1976, 1978, 97, 2084, 2086, 124, 2048, 2050, 115, 2036, 2038, 112, 1960, 1962, 93] (by decide +kernel)
set_option maxRecDepth 20000 in
theorem tkX12_whiles : Cond.code yX12_whiles cX12_whiles 3 none ∈ lw_tbl2 := List.mem_of_getElem? (i := 2079) rfl
theorem wtX12_whiles : ∀ w ∈ wzX12_whiles, w ∈ lw_tbl2 := z2_cons tkX12_whiles (z2_app toX12_whiles (z2_app wtcX12 (z2_app wtX12_next (z2_app wtX12_open (z2_app wtX12_then (z2_app wtX12_isJustTrue (z2_app wtX12_shut (z2_app wtX12_emit (z2_app wtX12_loopGoal (z2_app wtX12_body (z2_app wtX12_patch (z2_app wtX12_over z2_nil))))))))))))
set_option maxRecDepth 20000 in
theorem toX12_repeats : ∀ w ∈ woX12_repeats, w ∈ lw_tbl2 := z_at [1600, 1601, 1603, 1584, 1555, 1602, 1610, 1607, 1585, 1605, 1583, 1578, 1604, 1545, 1552, 1586, 1926, 1928, 86, 174, 1976, 1978, 97, 2084, 2086, 124, 2048, 2050, 115, 2036, 2038, 112, 2000, 2002, 103, 2008, 2010, 105, 1968, 1970, 95, 2080, 2082, 123, 2016, 2018, 107, 1960, 1962, 93] (by decide +kernel)
set_option maxRecDepth 20000 in
theorem tkX12_repeats : Cond.code yX12_repeats cX12_repeats 4 none ∈ lw_tbl2 := List.mem_of_getElem? (i := 2091) rfl
theorem wtX12_repeats : ∀ w ∈ wzX12_repeats, w ∈ lw_tbl2 := z2_cons tkX12_repeats (z2_app toX12_repeats (z2_app wtcX12 (z2_app wtX12_next (z2_app wtX12_emit (z2_app wtX12_loopGoal (z2_app wtX12_body (z2_app wtX12_patch (z2_app wtX12_need (z2_app wtX12_open (z2_app wtX12_then (z2_app wtX12_isJustTrue (z2_app wtX12_shut (z2_app wtX12_over z2_nil)))))))))))))
set_option maxRecDepth 20000 in
theorem toX12_forHead : ∀ w ∈ woX12_forHead, w ∈ lw_tbl2 := z_at [1550, 1545, 1600, 1601, 1548, 1546, 1603, 1980, 1982, 98, 174, 2052, 2054, 116, 1926, 1928, 86, 1968, 1970, 95, 2024, 2026, 109, 1976, 1978, 97] (by decide +kernel)
set_option maxRecDepth 20000 in
theorem tkX12_forHead : Cond.code yX12_forHead cX12_forHead 3 none ∈ lw_tbl2 := List.mem_of_getElem? (i := 2099) rfl
theorem wtX12_forHead : ∀ w ∈ wzX12_forHead, w ∈ lw_tbl2 := z2_cons tkX12_forHead (z2_app toX12_forHead (z2_app wtcX12 (z2_app wtX12_can (z2_app wtX12_got (z2_app wtX12_next (z2_app wtX12_then (z2_app wtX12_telling (z2_app wtX12_emit z2_nil))))))))
set_option maxRecDepth 20000 in
theorem toX12_forBehind : ∀ w ∈ woX12_forBehind, w ∈ lw_tbl2 := z_at [1602, 1603, 1605, 1555, 1550, 1600, 1545, 1608, 1548, 1546, 2000, 2002, 103, 174, 1976, 1978, 97, 1980, 1982, 98, 2052, 2054, 116, 1926, 1928, 86, 1968, 1970, 95] (by decide +kernel)
set_option maxRecDepth 20000 in
theorem tkX12_forBehind : Cond.code yX12_forBehind cX12_forBehind 3 none ∈ lw_tbl2 := List.mem_of_getElem? (i := 2103) rfl
theorem wtX12_forBehind : ∀ w ∈ wzX12_forBehind, w ∈ lw_tbl2 := z2_cons tkX12_forBehind (z2_app toX12_forBehind (z2_app wtcX12 (z2_app wtX12_need (z2_app wtX12_emit (z2_app wtX12_can (z2_app wtX12_got (z2_app wtX12_next (z2_app wtX12_then z2_nil))))))))
set_option maxRecDepth 20000 in
theorem toX12_rows : ∀ w ∈ woX12_rows, w ∈ lw_tbl2 := z_at [1600, 1608, 1584, 1601, 1557, 1555, 1583, 1587, 1578, 1606, 1573, 1609, 1558, 1603, 1545, 2036, 2038, 112, 174, 1976, 1978, 97, 1960, 1962, 93, 1921, 1923, 85, 2016, 2018, 107, 2084, 2086, 124, 2048, 2050, 115, 1926, 1928, 86, 1968, 1970, 95] (by decide +kernel)
set_option maxRecDepth 20000 in
theorem tkX12_rows : Cond.code yX12_rows cX12_rows 3 none ∈ lw_tbl2 := List.mem_of_getElem? (i := 2107) rfl
theorem wtX12_rows : ∀ w ∈ wzX12_rows, w ∈ lw_tbl2 := z2_cons tkX12_rows (z2_app toX12_rows (z2_app wtcX12 (z2_app wtX12_patch (z2_app wtX12_emit (z2_app wtX12_over (z2_app wtX12_see (z2_app wtX12_shut (z2_app wtX12_loopGoal (z2_app wtX12_body (z2_app wtX12_next (z2_app wtX12_then z2_nil)))))))))))
set_option maxRecDepth 20000 in
theorem toX12_fors : ∀ w ∈ woX12_fors, w ∈ lw_tbl2 := z_at [1600, 1606, 1573, 1609, 1601, 1555, 1604, 1545, 1607, 1552, 1608, 1557, 1603, 1584, 1605, 1602, 1583, 1578, 1585, 1926, 1928, 86, 174, 2008, 2010, 105, 2096, 2098, 127, 1921, 1923, 85, 1976, 1978, 97, 2000, 2002, 103, 1968, 1970, 95, 2080, 2082, 123, 2100, 2102, 128, 2016, 2018, 107, 2084, 2086, 124, 2048, 2050, 115, 2036, 2038, 112, 1960, 1962, 93, 2104, 2106, 129] (by decide +kernel)
set_option maxRecDepth 20000 in
theorem tkX12_fors : Cond.code yX12_fors cX12_fors 3 none ∈ lw_tbl2 := List.mem_of_getElem? (i := 2095) rfl
theorem wtX12_fors : ∀ w ∈ wzX12_fors, w ∈ lw_tbl2 := z2_cons tkX12_fors (z2_app toX12_fors (z2_app wtcX12 (z2_app wtX12_next (z2_app wtX12_open (z2_app wtX12_forHead (z2_app wtX12_see (z2_app wtX12_emit (z2_app wtX12_need (z2_app wtX12_then (z2_app wtX12_isJustTrue (z2_app wtX12_forBehind (z2_app wtX12_shut (z2_app wtX12_loopGoal (z2_app wtX12_body (z2_app wtX12_patch (z2_app wtX12_over (z2_app wtX12_rows z2_nil)))))))))))))))))
set_option maxRecDepth 20000 in
theorem toX12_lock : ∀ w ∈ woX12_lock, w ∈ lw_tbl2 := z_at [1600, 1587, 1598, 1545, 1549, 1976, 1978, 97, 174, 1926, 1928, 86, 2008, 2010, 105, 1980, 1982, 98, 2016, 2018, 107, 1968, 1970, 95] (by decide +kernel)
set_option maxRecDepth 20000 in
theorem tkX12_lock : Cond.code yX12_lock cX12_lock 2 none ∈ lw_tbl2 := List.mem_of_getElem? (i := 2111) rfl
theorem wtX12_lock : ∀ w ∈ wzX12_lock, w ∈ lw_tbl2 := z2_cons tkX12_lock (z2_app toX12_lock (z2_app wtcX12 (z2_app wtX12_emit (z2_app wtX12_next (z2_app wtX12_open (z2_app wtX12_can (z2_app wtX12_shut (z2_app wtX12_then z2_nil))))))))
set_option maxRecDepth 20000 in
theorem toX12_entry : ∀ w ∈ woX12_entry, w ∈ lw_tbl2 := z_at [1560, 1559, 1561, 1555, 1562, 1563, 1602, 1557, 1601] (by decide +kernel)
set_option maxRecDepth 20000 in
theorem tkX12_entry : Cond.code yX12_entry cX12_entry 4 none ∈ lw_tbl2 := List.mem_of_getElem? (i := 2123) rfl
theorem wtX12_entry : ∀ w ∈ wzX12_entry, w ∈ lw_tbl2 := z2_cons tkX12_entry (z2_app toX12_entry (z2_app wtcX12 z2_nil))
set_option maxRecDepth 20000 in
theorem toX12_caseNumber : ∀ w ∈ woX12_caseNumber, w ∈ lw_tbl2 := z_at [1545, 1549, 1557, 1601, 1550, 1563, 1562, 1560, 1546, 1980, 1982, 98, 174, 2120, 2122, 133, 1926, 1928, 86, 1984, 1986, 99] (by decide +kernel)
set_option maxRecDepth 20000 in
theorem tkX12_caseNumber : Cond.code yX12_caseNumber cX12_caseNumber 5 (some .boolean) ∈ lw_tbl2 := List.mem_of_getElem? (i := 2119) rfl
theorem wtX12_caseNumber : ∀ w ∈ wzX12_caseNumber, w ∈ lw_tbl2 := z2_cons tkX12_caseNumber (z2_app toX12_caseNumber (z2_app wtcX12 (z2_app wtX12_can (z2_app wtX12_entry (z2_app wtX12_next (z2_app wtX12_fail z2_nil))))))
set_option maxRecDepth 20000 in
theorem toX12_groups : ∀ w ∈ woX12_groups, w ∈ lw_tbl2 := z_at [1600, 1601, 1602, 1603, 1605, 1606, 1573, 1607, 1545, 1558, 1555, 1583, 1578, 1585, 1546, 1610, 1926, 1928, 86, 174, 2008, 2010, 105, 1968, 1970, 95, 2016, 2018, 107, 1976, 1978, 97, 2044, 2046, 114, 2036, 2038, 112, 1960, 1962, 93, 2120, 2122, 133, 2000, 2002, 103, 1984, 1986, 99, 2116, 2118, 132] (by decide +kernel)
set_option maxRecDepth 20000 in
theorem tkX12_groups : Cond.code yX12_groups cX12_groups 3 none ∈ lw_tbl2 := List.mem_of_getElem? (i := 2115) rfl
theorem wtX12_groups : ∀ w ∈ wzX12_groups, w ∈ lw_tbl2 := z2_cons tkX12_groups (z2_app toX12_groups (z2_app wtcX12 (z2_app wtX12_next (z2_app wtX12_open (z2_app wtX12_then (z2_app wtX12_shut (z2_app wtX12_emit (z2_app wtX12_goal (z2_app wtX12_patch (z2_app wtX12_over (z2_app wtX12_entry (z2_app wtX12_need (z2_app wtX12_fail (z2_app wtX12_caseNumber z2_nil))))))))))))))
set_option maxRecDepth 20000 in
theorem toX12_catching : ∀ w ∈ woX12_catching, w ∈ lw_tbl2 := z_at [1568, 1545, 1548, 1570, 1555, 1571, 1546, 1550, 1549, 1538, 1565, 1601, 1569, 1572, 1607, 1926, 1928, 86, 174, 2008, 2010, 105, 1980, 1982, 98, 2028, 2030, 110, 1921, 1923, 85, 2016, 2018, 107, 1968, 1970, 95, 1984, 1986, 99, 1904, 1906, 84] (by decide +kernel)
set_option maxRecDepth 20000 in
theorem tkX12_catching : Cond.code yX12_catching cX12_catching 6 none ∈ lw_tbl2 := List.mem_of_getElem? (i := 2131) rfl
theorem wtX12_catching : ∀ w ∈ wzX12_catching, w ∈ lw_tbl2 := z2_cons tkX12_catching (z2_app toX12_catching (z2_app wtcX12 (z2_app wtX12_next (z2_app wtX12_open (z2_app wtX12_can (z2_app wtX12_seenAs (z2_app wtX12_see (z2_app wtX12_shut (z2_app wtX12_then (z2_app wtX12_fail (z2_app wtX12_isUnder z2_nil)))))))))))
set_option maxRecDepth 20000 in
theorem toX12_endTry : ∀ w ∈ woX12_endTry, w ∈ lw_tbl2 := z_at [1587, 1567, 1601, 1555, 1603, 2136, 2138, 137, 174, 1960, 1962, 93] (by decide +kernel)
set_option maxRecDepth 20000 in
theorem tkX12_endTry : Cond.code yX12_endTry cX12_endTry 3 none ∈ lw_tbl2 := List.mem_of_getElem? (i := 2135) rfl
theorem wtX12_endTry : ∀ w ∈ wzX12_endTry, w ∈ lw_tbl2 := z2_cons tkX12_endTry (z2_app toX12_endTry (z2_app wtcX12 (z2_app wtX12_resolve (z2_app wtX12_over z2_nil))))
set_option maxRecDepth 20000 in
theorem toX12_trying : ∀ w ∈ woX12_trying, w ∈ lw_tbl2 := z_at [1600, 1601, 1564, 1565, 1566, 1587, 1602, 1545, 1592, 1591, 1593, 1578, 1607, 1550, 1549, 1603, 1610, 1555, 1606, 1573, 1926, 1928, 86, 174, 1976, 1978, 97, 1968, 1970, 95, 1980, 1982, 98, 2132, 2134, 136, 2128, 2130, 135] (by decide +kernel)
set_option maxRecDepth 20000 in
theorem tkX12_trying : Cond.code yX12_trying cX12_trying 3 none ∈ lw_tbl2 := List.mem_of_getElem? (i := 2127) rfl
theorem wtX12_trying : ∀ w ∈ wzX12_trying, w ∈ lw_tbl2 := z2_cons tkX12_trying (z2_app toX12_trying (z2_app wtcX12 (z2_app wtX12_next (z2_app wtX12_emit (z2_app wtX12_then (z2_app wtX12_can (z2_app wtX12_endTry (z2_app wtX12_catching z2_nil))))))))
set_option maxRecDepth 20000 in
theorem toX12_sums : ∀ w ∈ woX12_sums, w ∈ lw_tbl2 := z_at [1600, 1598, 1601, 1545, 1926, 1928, 86, 174, 1968, 1970, 95, 1976, 1978, 97] (by decide +kernel)
set_option maxRecDepth 20000 in
theorem tkX12_sums : Cond.code yX12_sums cX12_sums 4 none ∈ lw_tbl2 := List.mem_of_getElem? (i := 2147) rfl
theorem wtX12_sums : ∀ w ∈ wzX12_sums, w ∈ lw_tbl2 := z2_cons tkX12_sums (z2_app toX12_sums (z2_app wtcX12 (z2_app wtX12_next (z2_app wtX12_then (z2_app wtX12_emit z2_nil)))))
set_option maxRecDepth 20000 in
theorem toX12_factor : ∀ w ∈ woX12_factor, w ∈ lw_tbl2 := z_at [1600, 1545, 1599, 1548, 1576, 1575, 1598, 1546, 1549, 1554, 1980, 1982, 98, 174, 2008, 2010, 105, 1968, 1970, 95, 2012, 2014, 106, 1926, 1928, 86, 2028, 2030, 110, 1976, 1978, 97, 1984, 1986, 99, 2016, 2018, 107] (by decide +kernel)
set_option maxRecDepth 20000 in
theorem tkX12_factor : Cond.code yX12_factor cX12_factor 3 none ∈ lw_tbl2 := List.mem_of_getElem? (i := 2151) rfl
theorem wtX12_factor : ∀ w ∈ wzX12_factor, w ∈ lw_tbl2 := z2_cons tkX12_factor (z2_app toX12_factor (z2_app wtcX12 (z2_app wtX12_can (z2_app wtX12_open (z2_app wtX12_then (z2_app wtX12_opens (z2_app wtX12_next (z2_app wtX12_seenAs (z2_app wtX12_emit (z2_app wtX12_fail (z2_app wtX12_shut z2_nil)))))))))))
set_option maxRecDepth 20000 in
theorem toX12_arms : ∀ w ∈ woX12_arms, w ∈ lw_tbl2 := z_at [1600, 1601, 1602, 1603, 1587, 1545, 1578, 1558, 1555, 1598, 1546, 1550, 1606, 1573, 1610, 1926, 1928, 86, 174, 2008, 2010, 105, 1968, 1970, 95, 2016, 2018, 107, 1976, 1978, 97, 2044, 2046, 114, 1980, 1982, 98, 2120, 2122, 133, 1984, 1986, 99, 2116, 2118, 132, 2000, 2002, 103, 1964, 1966, 94] (by decide +kernel)
set_option maxRecDepth 20000 in
theorem tkX12_arms : Cond.code yX12_arms cX12_arms 2 none ∈ lw_tbl2 := List.mem_of_getElem? (i := 2155) rfl
theorem wtX12_arms : ∀ w ∈ wzX12_arms, w ∈ lw_tbl2 := z2_cons tkX12_arms (z2_app toX12_arms (z2_app wtcX12 (z2_app wtX12_next (z2_app wtX12_open (z2_app wtX12_then (z2_app wtX12_shut (z2_app wtX12_emit (z2_app wtX12_goal (z2_app wtX12_can (z2_app wtX12_entry (z2_app wtX12_fail (z2_app wtX12_caseNumber (z2_app wtX12_need (z2_app wtX12_note z2_nil))))))))))))))
set_option maxRecDepth 20000 in
theorem toX12_both : ∀ w ∈ woX12_both, w ∈ lw_tbl2 := z_at [1600, 1545, 1598, 1601, 1557, 1555, 1926, 1928, 86, 174, 1976, 1978, 97, 1968, 1970, 95] (by decide +kernel)
set_option maxRecDepth 20000 in
theorem tkX12_both : Cond.code yX12_both cX12_both 5 none ∈ lw_tbl2 := List.mem_of_getElem? (i := 2159) rfl
theorem wtX12_both : ∀ w ∈ wzX12_both, w ∈ lw_tbl2 := z2_cons tkX12_both (z2_app toX12_both (z2_app wtcX12 (z2_app wtX12_next (z2_app wtX12_emit (z2_app wtX12_then z2_nil)))))
set_option maxRecDepth 20000 in
theorem toX12_one : ∀ w ∈ woX12_one, w ∈ lw_tbl2 := z_at [1600, 1545, 1598, 1554, 1601, 1976, 1978, 97, 174, 1926, 1928, 86, 1968, 1970, 95, 2008, 2010, 105, 2012, 2014, 106, 2016, 2018, 107, 1980, 1982, 98] (by decide +kernel)
set_option maxRecDepth 20000 in
theorem tkX12_one : Cond.code yX12_one cX12_one 2 none ∈ lw_tbl2 := List.mem_of_getElem? (i := 2163) rfl
theorem wtX12_one : ∀ w ∈ wzX12_one, w ∈ lw_tbl2 := z2_cons tkX12_one (z2_app toX12_one (z2_app wtcX12 (z2_app wtX12_emit (z2_app wtX12_next (z2_app wtX12_then (z2_app wtX12_open (z2_app wtX12_opens (z2_app wtX12_shut (z2_app wtX12_can z2_nil)))))))))
set_option maxRecDepth 20000 in
theorem toX12_thing : ∀ w ∈ woX12_thing, w ∈ lw_tbl2 := z_at [1599, 1545, 2144, 2146, 139, 174, 2148, 2150, 140, 2152, 2154, 141, 2156, 2158, 142, 2160, 2162, 143] (by decide +kernel)
set_option maxRecDepth 20000 in
theorem tkX12_thing : Cond.code yX12_thing cX12_thing 2 none ∈ lw_tbl2 := List.mem_of_getElem? (i := 2143) rfl
theorem wtX12_thing : ∀ w ∈ wzX12_thing, w ∈ lw_tbl2 := z2_cons tkX12_thing (z2_app toX12_thing (z2_app wtcX12 (z2_app wtX12_sums (z2_app wtX12_factor (z2_app wtX12_arms (z2_app wtX12_both (z2_app wtX12_one z2_nil)))))))
set_option maxRecDepth 20000 in
theorem toX12_parse : ∀ w ∈ woX12_parse, w ∈ lw_tbl2 := z_at [1598, 1550, 1599, 1952, 1954, 91, 174, 1956, 1958, 92, 1972, 1974, 96, 2004, 2006, 104, 2020, 2022, 108, 2032, 2034, 111, 2056, 2058, 117, 2064, 2066, 119, 2068, 2070, 120, 2072, 2074, 121, 2076, 2078, 122, 2088, 2090, 125, 2092, 2094, 126, 2108, 2110, 130, 2112, 2114, 131, 2124, 2126, 134, 2140, 2142, 138] (by decide +kernel)
set_option maxRecDepth 20000 in
theorem tkX12_parse : Cond.code yX12_parse cX12_parse 1 none ∈ lw_tbl2 := List.mem_of_getElem? (i := 1951) rfl
theorem wtX12_parse : ∀ w ∈ wzX12_parse, w ∈ lw_tbl2 := z2_cons tkX12_parse (z2_app toX12_parse (z2_app wtcX12 (z2_app wtX12_push (z2_app wtX12_list (z2_app wtX12_stat (z2_app wtX12_block (z2_app wtX12_tell (z2_app wtX12_named (z2_app wtX12_ending (z2_app wtX12_throwing (z2_app wtX12_asserted (z2_app wtX12_branch (z2_app wtX12_whiles (z2_app wtX12_repeats (z2_app wtX12_fors (z2_app wtX12_lock (z2_app wtX12_groups (z2_app wtX12_trying (z2_app wtX12_thing z2_nil)))))))))))))))))))
set_option maxRecDepth 20000 in
theorem toX12_read : ∀ w ∈ woX12_read, w ∈ lw_tbl2 := z_at [1535, 1573, 1577, 1578, 1554, 1588, 1589, 1590, 1555, 1559, 1564, 1568, 1591, 1594, 1587, 1547, 1550, 1553, 1552, 1920, 1925, 1545, 1537, 1610, 1613, 1611, 1612, 1614, 1616, 1551, 1921, 1923, 85, 174, 1926, 1928, 86, 1948, 1950, 90, 1980, 1982, 98, 1984, 1986, 99] (by decide +kernel)
set_option maxRecDepth 20000 in
theorem tkX12_read : Cond.code yX12_read cX12_read 1 (some .int) ∈ lw_tbl2 := List.mem_of_getElem? (i := 1919) rfl
theorem wtX12_read : ∀ w ∈ wzX12_read, w ∈ lw_tbl2 := z2_cons tkX12_read (z2_app toX12_read (z2_app wtcX12 (z2_app wtX12_see (z2_app wtX12_next (z2_app wtX12_parse (z2_app wtX12_can (z2_app wtX12_fail z2_nil)))))))
set_option maxRecDepth 20000 in
theorem toX12_fault : ∀ w ∈ woX12_fault, w ∈ lw_tbl2 := z_at [1535, 1611] (by decide +kernel)
set_option maxRecDepth 20000 in
theorem tkX12_fault : Cond.code yX12_fault cX12_fault 1 (some .int) ∈ lw_tbl2 := List.mem_of_getElem? (i := 2167) rfl
theorem wtX12_fault : ∀ w ∈ wzX12_fault, w ∈ lw_tbl2 := z2_cons tkX12_fault (z2_app toX12_fault (z2_app wtcX12 z2_nil))
set_option maxRecDepth 20000 in
theorem toX12_program : ∀ w ∈ woX12_program, w ∈ lw_tbl2 := z_at [1535, 1612, 1590, 1589, 1613, 1588, 1893, 1894, 174] (by decide +kernel)
set_option maxRecDepth 20000 in
theorem tkX12_program : Cond.code yX12_program cX12_program 2 (some .int) ∈ lw_tbl2 := List.mem_of_getElem? (i := 2171) rfl
theorem wtX12_program : ∀ w ∈ wzX12_program, w ∈ lw_tbl2 := z2_cons tkX12_program (z2_app toX12_program (z2_app wtcX12 (z2_app wtX12_in z2_nil)))
set_option maxRecDepth 20000 in
theorem toX12_row : ∀ w ∈ woX12_row, w ∈ lw_tbl2 := z_at [1616, 1617, 1618] (by decide +kernel)
set_option maxRecDepth 20000 in
theorem tkX12_row : Cond.code yX12_row cX12_row 3 none ∈ lw_tbl2 := List.mem_of_getElem? (i := 2203) rfl
theorem wtX12_row : ∀ w ∈ wzX12_row, w ∈ lw_tbl2 := z2_cons tkX12_row (z2_app toX12_row (z2_app wtcX12 z2_nil))
set_option maxRecDepth 20000 in
theorem toX12_record : ∀ w ∈ woX12_record, w ∈ lw_tbl2 := z_at [1634, 1635, 1636, 1637, 1638, 1639, 1628] (by decide +kernel)
set_option maxRecDepth 20000 in
theorem tkX12_record : Cond.code yX12_record cX12_record 6 (some .int) ∈ lw_tbl2 := List.mem_of_getElem? (i := 2227) rfl
theorem wtX12_record : ∀ w ∈ wzX12_record, w ∈ lw_tbl2 := z2_cons tkX12_record (z2_app toX12_record (z2_app wtcX12 z2_nil))
set_option maxRecDepth 20000 in
theorem toX12_put : ∀ w ∈ woX12_put, w ∈ lw_tbl2 := z_at [1629, 1628] (by decide +kernel)
set_option maxRecDepth 20000 in
theorem tkX12_put : Cond.code yX12_put cX12_put 2 none ∈ lw_tbl2 := List.mem_of_getElem? (i := 2187) rfl
theorem wtX12_put : ∀ w ∈ wzX12_put, w ∈ lw_tbl2 := z2_cons tkX12_put (z2_app toX12_put (z2_app wtcX12 z2_nil))
set_option maxRecDepth 20000 in
theorem toX12_take : ∀ w ∈ woX12_take, w ∈ lw_tbl2 := z_at [1628, 1629] (by decide +kernel)
set_option maxRecDepth 20000 in
theorem tkX12_take : Cond.code yX12_take cX12_take 1 (some .int) ∈ lw_tbl2 := List.mem_of_getElem? (i := 2191) rfl
theorem wtX12_take : ∀ w ∈ wzX12_take, w ∈ lw_tbl2 := z2_cons tkX12_take (z2_app toX12_take (z2_app wtcX12 z2_nil))
set_option maxRecDepth 20000 in
theorem toX12_raise : ∀ w ∈ woX12_raise, w ∈ lw_tbl2 := z_at [1620, 1649, 1621, 1622, 1623, 1645] (by decide +kernel)
set_option maxRecDepth 20000 in
theorem tkX12_raise : Cond.code yX12_raise cX12_raise 3 none ∈ lw_tbl2 := List.mem_of_getElem? (i := 2195) rfl
theorem wtX12_raise : ∀ w ∈ wzX12_raise, w ∈ lw_tbl2 := z2_cons tkX12_raise (z2_app toX12_raise (z2_app wtcX12 z2_nil))
set_option maxRecDepth 20000 in
theorem toX12_closeAll : ∀ w ∈ woX12_closeAll, w ∈ lw_tbl2 := z_at [1630, 1638, 1631, 1542, 1645, 1623, 1649, 1624, 1625, 2200, 2202, 150, 174, 2192, 2194, 148] (by decide +kernel)
set_option maxRecDepth 20000 in
theorem tkX12_closeAll : Cond.code yX12_closeAll cX12_closeAll 5 none ∈ lw_tbl2 := List.mem_of_getElem? (i := 2207) rfl
theorem wtX12_closeAll : ∀ w ∈ wzX12_closeAll, w ∈ lw_tbl2 := z2_cons tkX12_closeAll (z2_app toX12_closeAll (z2_app wtcX12 (z2_app wtX12_row (z2_app wtX12_raise z2_nil))))
set_option maxRecDepth 20000 in
theorem toX12_finals : ∀ w ∈ woX12_finals, w ∈ lw_tbl2 := z_at [1566, 1636, 1640, 1645, 1641, 1646, 1642, 1647, 1643, 1648, 1644, 1649, 1637, 1639, 1628, 1627] (by decide +kernel)
set_option maxRecDepth 20000 in
theorem tkX12_finals : Cond.code yX12_finals cX12_finals 3 (some .boolean) ∈ lw_tbl2 := List.mem_of_getElem? (i := 2215) rfl
theorem wtX12_finals : ∀ w ∈ wzX12_finals, w ∈ lw_tbl2 := z2_cons tkX12_finals (z2_app toX12_finals (z2_app wtcX12 z2_nil))
set_option maxRecDepth 20000 in
theorem toX12_isCaught : ∀ w ∈ woX12_isCaught, w ∈ lw_tbl2 := z_at [1565, 1636, 1621, 1649, 1569, 1572, 1619, 1571, 1637, 1639, 1628, 1570, 1627, 1904, 1906, 84, 174] (by decide +kernel)
set_option maxRecDepth 20000 in
theorem tkX12_isCaught : Cond.code yX12_isCaught cX12_isCaught 3 (some .boolean) ∈ lw_tbl2 := List.mem_of_getElem? (i := 2211) rfl
theorem wtX12_isCaught : ∀ w ∈ wzX12_isCaught, w ∈ lw_tbl2 := z2_cons tkX12_isCaught (z2_app toX12_isCaught (z2_app wtcX12 (z2_app wtX12_isUnder z2_nil)))
set_option maxRecDepth 20000 in
theorem toX12_leave : ∀ w ∈ woX12_leave, w ∈ lw_tbl2 := z_at [1634, 1645, 1647, 1646, 1627, 1635, 1637, 1636, 1632, 1626, 1650, 1639, 1628, 1648, 1558, 2212, 2214, 153, 174, 2204, 2206, 151, 2208, 2210, 152, 2200, 2202, 150, 2184, 2186, 146] (by decide +kernel)
set_option maxRecDepth 20000 in
theorem tkX12_leave : Cond.code yX12_leave cX12_leave 2 none ∈ lw_tbl2 := List.mem_of_getElem? (i := 2199) rfl
theorem wtX12_leave : ∀ w ∈ wzX12_leave, w ∈ lw_tbl2 := z2_cons tkX12_leave (z2_app toX12_leave (z2_app wtcX12 (z2_app wtX12_finals (z2_app wtX12_closeAll (z2_app wtX12_isCaught (z2_app wtX12_row (z2_app wtX12_put z2_nil)))))))
set_option maxRecDepth 20000 in
theorem toX12_step : ∀ w ∈ woX12_step, w ∈ lw_tbl2 := z_at [1615, 1650, 1627] (by decide +kernel)
set_option maxRecDepth 20000 in
theorem tkX12_step : Cond.code yX12_step cX12_step 1 none ∈ lw_tbl2 := List.mem_of_getElem? (i := 2183) rfl
theorem wtX12_step : ∀ w ∈ wzX12_step, w ∈ lw_tbl2 := z2_cons tkX12_step (z2_app toX12_step (z2_app wtcX12 z2_nil))
set_option maxRecDepth 20000 in
theorem toX12_compute : ∀ w ∈ woX12_compute, w ∈ lw_tbl2 := z_at [] (by decide +kernel)
set_option maxRecDepth 20000 in
theorem tkX12_compute : Cond.code yX12_compute cX12_compute 4 (some .int) ∈ lw_tbl2 := List.mem_of_getElem? (i := 2219) rfl
theorem wtX12_compute : ∀ w ∈ wzX12_compute, w ∈ lw_tbl2 := z2_cons tkX12_compute (z2_app toX12_compute z2_nil)
set_option maxRecDepth 20000 in
theorem toX12_caseOf : ∀ w ∈ woX12_caseOf, w ∈ lw_tbl2 := z_at [1563, 1562, 1560] (by decide +kernel)
set_option maxRecDepth 20000 in
theorem tkX12_caseOf : Cond.code yX12_caseOf cX12_caseOf 5 (some .int) ∈ lw_tbl2 := List.mem_of_getElem? (i := 2231) rfl
theorem wtX12_caseOf : ∀ w ∈ wzX12_caseOf, w ∈ lw_tbl2 := z2_cons tkX12_caseOf (z2_app toX12_caseOf (z2_app wtcX12 z2_nil))
set_option maxRecDepth 20000 in
theorem toX12_goOn : ∀ w ∈ woX12_goOn, w ∈ lw_tbl2 := z_at [1634, 1567, 1636, 1627, 2212, 2214, 153, 174] (by decide +kernel)
set_option maxRecDepth 20000 in
theorem tkX12_goOn : Cond.code yX12_goOn cX12_goOn 2 none ∈ lw_tbl2 := List.mem_of_getElem? (i := 2239) rfl
theorem wtX12_goOn : ∀ w ∈ wzX12_goOn, w ∈ lw_tbl2 := z2_cons tkX12_goOn (z2_app toX12_goOn (z2_app wtcX12 (z2_app wtX12_finals z2_nil)))
set_option maxRecDepth 20000 in
theorem toX12_others : ∀ w ∈ woX12_others, w ∈ lw_tbl2 := z_at [1634, 1556, 1632, 1628, 1633, 1629, 1637, 1638, 1619, 1558, 1627, 1636, 1640, 1645, 1641, 1646, 1642, 1647, 1643, 1648, 1644, 1649, 1630, 1541, 1540, 1631, 2224, 2226, 156, 174, 2180, 2182, 145, 2196, 2198, 149, 2200, 2202, 150, 2192, 2194, 148, 2204, 2206, 151, 2236, 2238, 159] (by decide +kernel)
set_option maxRecDepth 20000 in
theorem tkX12_others : Cond.code yX12_others cX12_others 6 none ∈ lw_tbl2 := List.mem_of_getElem? (i := 2235) rfl
theorem wtX12_others : ∀ w ∈ wzX12_others, w ∈ lw_tbl2 := z2_cons tkX12_others (z2_app toX12_others (z2_app wtcX12 (z2_app wtX12_record (z2_app wtX12_step (z2_app wtX12_leave (z2_app wtX12_row (z2_app wtX12_raise (z2_app wtX12_closeAll (z2_app wtX12_goOn z2_nil)))))))))
set_option maxRecDepth 20000 in
theorem toX12_ends : ∀ w ∈ woX12_ends, w ∈ lw_tbl2 := z_at [1556, 1648, 1645, 1558, 1647, 1619, 1649, 1543, 1627, 1626, 1634, 1636, 1561, 1646, 2188, 2190, 147, 174, 2196, 2198, 149, 2192, 2194, 148, 2232, 2234, 158, 2200, 2202, 150, 2224, 2226, 156, 2228, 2230, 157] (by decide +kernel)
set_option maxRecDepth 20000 in
theorem tkX12_ends : Cond.code yX12_ends cX12_ends 5 none ∈ lw_tbl2 := List.mem_of_getElem? (i := 2223) rfl
theorem wtX12_ends : ∀ w ∈ wzX12_ends, w ∈ lw_tbl2 := z2_cons tkX12_ends (z2_app toX12_ends (z2_app wtcX12 (z2_app wtX12_take (z2_app wtX12_leave (z2_app wtX12_raise (z2_app wtX12_others (z2_app wtX12_row (z2_app wtX12_record (z2_app wtX12_caseOf z2_nil)))))))))
set_option maxRecDepth 20000 in
theorem toX12_act : ∀ w ∈ woX12_act, w ∈ lw_tbl2 := z_at [1557, 1556, 1619, 1622, 1629, 1628, 1627, 2180, 2182, 145, 174, 2184, 2186, 146, 2188, 2190, 147, 2216, 2218, 154, 2192, 2194, 148, 2196, 2198, 149, 2200, 2202, 150, 2220, 2222, 155] (by decide +kernel)
set_option maxRecDepth 20000 in
theorem tkX12_act : Cond.code yX12_act cX12_act 5 none ∈ lw_tbl2 := List.mem_of_getElem? (i := 2179) rfl
theorem wtX12_act : ∀ w ∈ wzX12_act, w ∈ lw_tbl2 := z2_cons tkX12_act (z2_app toX12_act (z2_app wtcX12 (z2_app wtX12_step (z2_app wtX12_put (z2_app wtX12_take (z2_app wtX12_compute (z2_app wtX12_raise (z2_app wtX12_leave (z2_app wtX12_row (z2_app wtX12_ends z2_nil))))))))))
set_option maxRecDepth 20000 in
theorem toX12_run : ∀ w ∈ woX12_run, w ∈ lw_tbl2 := z_at [1535, 1612, 1619, 1615, 1616, 1620, 1630, 1632, 1634, 1628, 1614, 1650, 1627, 1555, 1626, 2176, 2178, 144, 174] (by decide +kernel)
set_option maxRecDepth 20000 in
theorem tkX12_run : Cond.code yX12_run cX12_run 4 (some .int) ∈ lw_tbl2 := List.mem_of_getElem? (i := 2175) rfl
theorem wtX12_run : ∀ w ∈ wzX12_run, w ∈ lw_tbl2 := z2_cons tkX12_run (z2_app toX12_run (z2_app wtcX12 (z2_app wtX12_act z2_nil)))
set_option maxRecDepth 20000 in
theorem toX12_ran : ∀ w ∈ woX12_ran, w ∈ lw_tbl2 := z_at [1535, 1614, 1650, 1615, 1616, 1648, 1621, 1649, 1622, 1623, 1626, 1893, 1894, 174] (by decide +kernel)
set_option maxRecDepth 20000 in
theorem tkX12_ran : Cond.code yX12_ran cX12_ran 5 (some .int) ∈ lw_tbl2 := List.mem_of_getElem? (i := 2243) rfl
theorem wtX12_ran : ∀ w ∈ wzX12_ran, w ∈ lw_tbl2 := z2_cons tkX12_ran (z2_app toX12_ran (z2_app wtcX12 (z2_app wtX12_in z2_nil)))
