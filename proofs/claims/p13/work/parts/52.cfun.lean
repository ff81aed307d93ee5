section
noncomputable def f_X0_clear (N : Nat) (σ : CS) : Option (Unit × CS) :=
  some ((), CS.setI (CS.setI (CS.setI (CS.setI (CS.setI (CS.setI (CS.setI (CS.setI σ 20 0) 21 0) 22 0) 23 0) 24 0) 25 0) 26 0) 27 0)
noncomputable def f_X0_add (N : Nat) (σ : CS) (x1 : Int32) (x2 : Int32) : Option (Unit × CS) :=
  some ((), CS.setI (CS.putA (CS.putA σ 15 (gPut (σ.a 15) 1200 (σ.i 20) x1)) 16 (gPut (CS.a (CS.putA σ 15 (gPut (σ.a 15) 1200 (σ.i 20) x1)) 16) 1200 (σ.i 20) x2)) 20 ((σ.i 20) + 1))
noncomputable def f_X0_newTarget (N : Nat) (σ : CS) : Option (Int32 × CS) :=
  some ((((σ.i 21) + 1) - 1), CS.setI (CS.putA σ 17 (gPut (σ.a 17) 1024 (σ.i 21) (-1))) 21 ((σ.i 21) + 1))
noncomputable def f_X0_aim (N : Nat) (σ : CS) (x1 : Int32) : Option (Unit × CS) :=
  some ((), CS.putA σ 17 (gPut (σ.a 17) 1024 x1 (σ.i 20)))
noncomputable def f_X0_newCells (N : Nat) (σ : CS) (x1 : Int32) : Option (Int32 × CS) :=
  some ((((σ.i 23) + x1) - x1), CS.setI σ 23 ((σ.i 23) + x1))
noncomputable def b_X0_hasCase_2 (N : Nat) (K : CS → Int32 → Int32 → Option (Int32 × CS)) (σ : CS) (x2 : Int32) (x3 : Int32) : Option (Int32 × CS) :=
  (if (σ.i 22) ≤ x3 then some (0, σ) else (if (gAt (σ.a 18) 320 x3) = x2 then some (1, σ) else K σ x2 (x3 + 1)))
noncomputable def f_X0_hasCase_2 (N : Nat) : Nat → CS → Int32 → Int32 → Option (Int32 × CS)
  | 0 => fun _ _ _ => none
  | n+1 => b_X0_hasCase_2 N (f_X0_hasCase_2 N n)
noncomputable def f_X0_hasCase (N : Nat) (σ : CS) (x1 : Int32) (x2 : Int32) : Option (Int32 × CS) :=
  f_X0_hasCase_2 N N σ x2 x1
noncomputable def f_X0_addCase (N : Nat) (σ : CS) (x1 : Int32) (x2 : Int32) : Option (Unit × CS) :=
  some ((), CS.setI (CS.putA (CS.putA σ 18 (gPut (σ.a 18) 320 (σ.i 22) x1)) 19 (gPut (CS.a (CS.putA σ 18 (gPut (σ.a 18) 320 (σ.i 22) x1)) 19) 320 (σ.i 22) x2)) 22 ((σ.i 22) + 1))
noncomputable def b_X0_addCases_2 (N : Nat) (K : CS → Int32 → Int32 → Int32 → Option (Unit × CS)) (σ : CS) (x1 : Int32) (x2 : Int32) (x3 : Int32) : Option (Unit × CS) :=
  (if (σ.i 22) ≤ x3 then (f_X0_add N (CS.setI σ 22 x1) 6 0).bind fun p2 => (f_X0_add N p2.2 30 x2).bind fun p6 => some ((), p6.2) else (f_X0_add N σ 0 (gAt (σ.a 18) 320 x3)).bind fun p11 => (f_X0_add N p11.2 34 (gAt (p11.2.a 19) 320 x3)).bind fun p16 => K p16.2 x1 x2 (x3 + 1))
noncomputable def f_X0_addCases_2 (N : Nat) : Nat → CS → Int32 → Int32 → Int32 → Option (Unit × CS)
  | 0 => fun _ _ _ _ => none
  | n+1 => b_X0_addCases_2 N (f_X0_addCases_2 N n)
noncomputable def f_X0_addCases (N : Nat) (σ : CS) (x1 : Int32) (x2 : Int32) : Option (Unit × CS) :=
  f_X0_addCases_2 N N σ x1 x2 x1
noncomputable def f_X9_stop (N : Nat) (σ : CS) : Option (Unit × CS) :=
  some ((), CS.setI (CS.setI σ 42 (σ.i 41)) 43 0)
noncomputable def f_X1_fail (N : Nat) (σ : CS) (x1 : Int32) (x2 : Int32) : Option (Unit × CS) :=
  (if (σ.i 32) = 0 then (f_X9_stop N (CS.setI (CS.setI σ 32 x1) 33 x2)).bind fun p2 => some ((), p2.2) else some ((), σ))
noncomputable def f_X1_found (N : Nat) (σ : CS) (x1 : Int32) : Option (Int32 × CS) :=
  (if (σ.i 43) = x1 then some (1, σ) else some (0, σ))
noncomputable def f_X1_misplaced (N : Nat) (σ : CS) : Option (Unit × CS) :=
  (f_X1_found N σ 6).bind fun p1 => (if p1.1 = 0 then (f_X1_fail N p1.2 2 (p1.2.i 44)).bind fun p6 => some ((), p6.2) else (f_X1_fail N p1.2 1 (p1.2.i 44)).bind fun p10 => some ((), p10.2))
noncomputable def f_X9_byteAt_30 (N : Nat) (σ : CS) : Option (Int32 × CS) :=
  some ((-1), σ)
noncomputable def f_X9_byteAt (N : Nat) (σ : CS) (x1 : Int32) : Option (Int32 × CS) :=
  (if x1 < 0 then f_X9_byteAt_30 N σ else (if (σ.i 41) ≤ x1 then f_X9_byteAt_30 N σ else (if 900 ≤ x1 then f_X9_byteAt_30 N σ else if ib x1 900 then some (((σ.a 0) ((x1 : Int32).toNatClampNeg)), σ) else none)))
noncomputable def f_X9_isDigit_16 (N : Nat) (σ : CS) : Option (Int32 × CS) :=
  some (0, σ)
noncomputable def f_X9_isDigit (N : Nat) (σ : CS) (x0 : Int32) : Option (Int32 × CS) :=
  (if x0 < 48 then f_X9_isDigit_16 N σ else (if 57 < x0 then f_X9_isDigit_16 N σ else some (1, σ)))
noncomputable def f_X9_takeNumber_67 (N : Nat) (σ : CS) : Option (Unit × CS) :=
  (if ((σ.i 42) - (σ.i 44)) ≤ 9 then some ((), CS.setI σ 43 1) else some ((), CS.setI σ 43 6))
noncomputable def b_X9_takeNumber_7 (N : Nat) (K : CS → Int32 → Option (Unit × CS)) (σ : CS) (x1 : Int32) : Option (Unit × CS) :=
  (if 900 ≤ x1 then f_X9_takeNumber_67 N σ else (f_X9_byteAt N σ (σ.i 42)).bind fun p3 => (f_X9_isDigit N p3.2 p3.1).bind fun p7 => (if p7.1 = 0 then f_X9_takeNumber_67 N p7.2 else (f_X9_byteAt N p7.2 (p7.2.i 42)).bind fun p12 => K (CS.setI (CS.setI p12.2 45 ((((p7.2.i 45) * 10) + p12.1) - 48)) 42 ((p12.2.i 42) + 1)) (x1 + 1)))
noncomputable def f_X9_takeNumber_7 (N : Nat) : Nat → CS → Int32 → Option (Unit × CS)
  | 0 => fun _ _ => none
  | n+1 => b_X9_takeNumber_7 N (f_X9_takeNumber_7 N n)
noncomputable def f_X9_takeNumber (N : Nat) (σ : CS) : Option (Unit × CS) :=
  f_X9_takeNumber_7 N N (CS.setI σ 45 0) 0
noncomputable def f_X9_isLetter_16 (N : Nat) (σ : CS) : Option (Int32 × CS) :=
  some (0, σ)
noncomputable def f_X9_isLetter (N : Nat) (σ : CS) (x0 : Int32) : Option (Int32 × CS) :=
  (if x0 < 97 then f_X9_isLetter_16 N σ else (if 122 < x0 then f_X9_isLetter_16 N σ else some (1, σ)))
noncomputable def f_X9_rowType_171 (N : Nat) (σ : CS) (x6 : Int64) : Option (Int32 × CS) :=
  (if (lg_cmp x6 101) = 0 then (if 12 ≤ (σ.i 45) then some (2, σ) else some (5, σ)) else (if (σ.i 45) < 8 then (if (lg_cmp x6 109) = 0 then some (3, σ) else (if (lg_cmp x6 114) = 0 then some (4, σ) else some (2, σ))) else some (2, σ)))
noncomputable def f_X9_rowType_153 (N : Nat) (σ : CS) (x2 : Int64) (x4 : Int32) (x6 : Int64) : Option (Int32 × CS) :=
  (if x4 = 0 then f_X9_rowType_171 N (CS.setI σ 45 (((x2 : Int64).toInt32) + 10)) x6 else f_X9_rowType_171 N (CS.setI σ 45 (((x2 : Int64).toInt32) + 0)) x6)
noncomputable def f_X9_rowType_129 (N : Nat) (σ : CS) (x2 : Int64) (x4 : Int32) : Option (Int32 × CS) :=
  (if x4 = 0 then f_X9_rowType_153 N σ x2 x4 (σ.l >>> ((16 : Int32).toInt64 &&& 63)) else f_X9_rowType_153 N σ x2 x4 (σ.l >>> ((8 : Int32).toInt64 &&& 63)))
noncomputable def f_X9_rowType_117 (N : Nat) (σ : CS) (x2 : Int64) (x4 : Int32) (x5 : Int32) : Option (Int32 × CS) :=
  (if x4 = 0 then (if x5 = 0 then some (2, σ) else f_X9_rowType_129 N σ x2 x4) else f_X9_rowType_129 N σ x2 x4)
noncomputable def f_X9_rowType_114 (N : Nat) (σ : CS) (x2 : Int64) (x4 : Int32) : Option (Int32 × CS) :=
  f_X9_rowType_117 N σ x2 x4 0
noncomputable def f_X9_rowType_73 (N : Nat) (σ : CS) (x1 : Int32) (x2 : Int64) (x4 : Int32) : Option (Int32 × CS) :=
  (if x1 = 3 then (if (lg_cmp x2 0) < 0 then f_X9_rowType_114 N σ x2 x4 else (if 0 < (lg_cmp x2 9) then f_X9_rowType_114 N σ x2 x4 else (if (lg_cmp ((σ.l >>> ((8 : Int32).toInt64 &&& 63)) &&& 255) 49) = 0 then f_X9_rowType_117 N σ x2 x4 1 else f_X9_rowType_114 N σ x2 x4))) else f_X9_rowType_114 N σ x2 x4)
noncomputable def f_X9_rowType_70 (N : Nat) (σ : CS) (x1 : Int32) (x2 : Int64) : Option (Int32 × CS) :=
  f_X9_rowType_73 N σ x1 x2 0
noncomputable def b_X9_rowType_2 (N : Nat) (K : CS → Int32 → Int32 → Option (Int32 × CS)) (σ : CS) (x1 : Int32) (x2 : Int32) : Option (Int32 × CS) :=
  (if 25 ≤ x2 then (if x1 = 2 then (if (lg_cmp ((σ.l &&& 255) - 48) 0) < 0 then f_X9_rowType_70 N σ x1 ((σ.l &&& 255) - 48) else (if 0 < (lg_cmp ((σ.l &&& 255) - 48) 9) then f_X9_rowType_70 N σ x1 ((σ.l &&& 255) - 48) else f_X9_rowType_73 N σ x1 ((σ.l &&& 255) - 48) 1)) else f_X9_rowType_70 N σ x1 ((σ.l &&& 255) - 48)) else if ib x2 25 then (if (lg_cmp ((σ.b 40) ((x2 : Int32).toNatClampNeg)) σ.l) = 0 then some ((200 + x2), σ) else K σ x1 (x2 + 1)) else none)
noncomputable def f_X9_rowType_2 (N : Nat) : Nat → CS → Int32 → Int32 → Option (Int32 × CS)
  | 0 => fun _ _ _ => none
  | n+1 => b_X9_rowType_2 N (f_X9_rowType_2 N n)
noncomputable def f_X9_rowType (N : Nat) (σ : CS) (x1 : Int32) : Option (Int32 × CS) :=
  f_X9_rowType_2 N N σ x1 0
noncomputable def f_X9_takeRow_79 (N : Nat) (σ : CS) : Option (Unit × CS) :=
  (if ((σ.i 42) - (σ.i 44)) ≤ 8 then (f_X9_rowType N σ ((σ.i 42) - (σ.i 44))).bind fun p3 => some ((), CS.setI p3.2 43 p3.1) else some ((), CS.setI σ 43 6))
noncomputable def b_X9_takeRow_7 (N : Nat) (K : CS → Int32 → Option (Unit × CS)) (σ : CS) (x1 : Int32) : Option (Unit × CS) :=
  (if 900 ≤ x1 then f_X9_takeRow_79 N σ else (f_X9_byteAt N σ (σ.i 42)).bind fun p7 => (f_X9_isDigit N p7.2 p7.1).bind fun p11 => (if p11.1 = 0 then (f_X9_byteAt N p11.2 (p11.2.i 42)).bind fun p20 => (f_X9_isLetter N p20.2 p20.1).bind fun p24 => (if p24.1 = 0 then f_X9_takeRow_79 N p24.2 else (f_X9_byteAt N p24.2 (p24.2.i 42)).bind fun p29 => K (CS.setI (CS.setL p29.2 ((p24.2.l <<< ((8 : Int32).toInt64 &&& 63)) ||| (p29.1 : Int32).toInt64)) 42 ((p29.2.i 42) + 1)) (x1 + 1)) else (f_X9_byteAt N p11.2 (p11.2.i 42)).bind fun p16 => K (CS.setI (CS.setL p16.2 ((p11.2.l <<< ((8 : Int32).toInt64 &&& 63)) ||| (p16.1 : Int32).toInt64)) 42 ((p16.2.i 42) + 1)) (x1 + 1)))
noncomputable def f_X9_takeRow_7 (N : Nat) : Nat → CS → Int32 → Option (Unit × CS)
  | 0 => fun _ _ => none
  | n+1 => b_X9_takeRow_7 N (f_X9_takeRow_7 N n)
noncomputable def f_X9_takeRow (N : Nat) (σ : CS) : Option (Unit × CS) :=
  f_X9_takeRow_7 N N (CS.setL σ 0) 0
noncomputable def f_X9_longSign_73 (N : Nat) (σ : CS) (x0 : Int32) (x1 : Int32) : Option (Int32 × CS) :=
  (if x0 = x1 then (if x0 = 38 then some (132, σ) else (if x0 = 124 then some (133, σ) else (if x0 = 43 then some (135, σ) else some (6, σ)))) else some (6, σ))
noncomputable def f_X9_longSign (N : Nat) (σ : CS) (x0 : Int32) (x1 : Int32) : Option (Int32 × CS) :=
  (if x1 = 61 then (if x0 = 60 then some (128, σ) else (if x0 = 62 then some (129, σ) else (if x0 = 61 then some (130, σ) else (if x0 = 33 then some (131, σ) else some (6, σ))))) else (if x0 = 45 then (if x1 = 62 then some (134, σ) else f_X9_longSign_73 N σ x0 x1) else f_X9_longSign_73 N σ x0 x1))
noncomputable def f_X9_isSign (N : Nat) (σ : CS) (x0 : Int32) : Option (Int32 × CS) :=
  (if x0 = 33 then some (1, σ) else (if x0 = 37 then some (1, σ) else (if x0 = 40 then some (1, σ) else (if x0 = 41 then some (1, σ) else (if x0 = 42 then some (1, σ) else (if x0 = 43 then some (1, σ) else (if x0 = 44 then some (1, σ) else (if x0 = 45 then some (1, σ) else (if x0 = 47 then some (1, σ) else (if x0 = 58 then some (1, σ) else (if x0 = 59 then some (1, σ) else (if x0 = 60 then some (1, σ) else (if x0 = 61 then some (1, σ) else (if x0 = 62 then some (1, σ) else (if x0 = 91 then some (1, σ) else (if x0 = 93 then some (1, σ) else (if x0 = 123 then some (1, σ) else (if x0 = 124 then some (1, σ) else (if x0 = 125 then some (1, σ) else some (0, σ))))))))))))))))))))
noncomputable def f_X9_takeSign (N : Nat) (σ : CS) : Option (Unit × CS) :=
  (f_X9_byteAt N σ (σ.i 42)).bind fun p1 => (f_X9_byteAt N p1.2 ((p1.2.i 42) + 1)).bind fun p5 => (f_X9_longSign N p5.2 p1.1 p5.1).bind fun p9 => (if p9.1 = 6 then (f_X9_isSign N (CS.setI (CS.setI p9.2 43 p9.1) 42 ((p9.2.i 42) + 1)) p1.1).bind fun p14 => (if p14.1 = 0 then some ((), p14.2) else some ((), CS.setI p14.2 43 p1.1)) else some ((), CS.setI (CS.setI p9.2 43 p9.1) 42 ((p9.2.i 42) + 2)))
noncomputable def f_X9_advance_51 (N : Nat) (σ : CS) : Option (Unit × CS) :=
  (if (σ.i 42) < (σ.i 41) then (f_X9_byteAt N (CS.setI σ 44 (σ.i 42)) (σ.i 42)).bind fun p3 => (f_X9_isDigit N p3.2 p3.1).bind fun p7 => (if p7.1 = 0 then (f_X9_byteAt N p7.2 (p7.2.i 42)).bind fun p12 => (f_X9_isLetter N p12.2 p12.1).bind fun p16 => (if p16.1 = 0 then (f_X9_takeSign N p16.2).bind fun p21 => some ((), p21.2) else (f_X9_takeRow N p16.2).bind fun p25 => some ((), p25.2)) else (f_X9_takeNumber N p7.2).bind fun p29 => some ((), p29.2)) else some ((), CS.setI (CS.setI σ 44 (σ.i 42)) 43 0))
noncomputable def b_X9_advance_2 (N : Nat) (K : CS → Int32 → Option (Unit × CS)) (σ : CS) (x1 : Int32) : Option (Unit × CS) :=
  (if 900 ≤ x1 then f_X9_advance_51 N σ else (f_X9_byteAt N σ (σ.i 42)).bind fun p33 => (if p33.1 = 32 then K (CS.setI p33.2 42 ((p33.2.i 42) + 1)) (x1 + 1) else (f_X9_byteAt N p33.2 (p33.2.i 42)).bind fun p38 => (if p38.1 = 10 then K (CS.setI p38.2 42 ((p38.2.i 42) + 1)) (x1 + 1) else f_X9_advance_51 N p38.2)))
noncomputable def f_X9_advance_2 (N : Nat) : Nat → CS → Int32 → Option (Unit × CS)
  | 0 => fun _ _ => none
  | n+1 => b_X9_advance_2 N (f_X9_advance_2 N n)
noncomputable def f_X9_advance (N : Nat) (σ : CS) : Option (Unit × CS) :=
  f_X9_advance_2 N N σ 0
noncomputable def f_X1_skip_17 (N : Nat) (σ : CS) (x2 : Int32) : Option (Int32 × CS) :=
  if x2 = 0 ∨ x2 = 1 then some (x2, σ) else none
noncomputable def f_X1_skip (N : Nat) (σ : CS) (x1 : Int32) : Option (Int32 × CS) :=
  (f_X1_found N σ x1).bind fun p1 => (if p1.1 = 0 then f_X1_skip_17 N p1.2 p1.1 else (f_X9_advance N p1.2).bind fun p7 => f_X1_skip_17 N p7.2 p1.1)
noncomputable def f_X1_expect (N : Nat) (σ : CS) (x1 : Int32) : Option (Unit × CS) :=
  (f_X1_found N σ x1).bind fun p1 => (if p1.1 = 0 then (f_X1_misplaced N p1.2).bind fun p6 => some ((), p6.2) else (f_X9_advance N p1.2).bind fun p10 => some ((), p10.2))
noncomputable def f_X1_open (N : Nat) (σ : CS) (x1 : Int32) : Option (Unit × CS) :=
  (f_X1_found N σ x1).bind fun p1 => (if p1.1 = 0 then (f_X1_misplaced N p1.2).bind fun p15 => some ((), p15.2) else (if (p1.2.i 34) < 20 then (f_X9_advance N (CS.setI p1.2 34 ((p1.2.i 34) + 1))).bind fun p7 => some ((), p7.2) else (f_X1_fail N p1.2 6 (p1.2.i 44)).bind fun p11 => some ((), p11.2)))
noncomputable def f_X1_close_22 (N : Nat) (σ : CS) : Option (Unit × CS) :=
  some ((), CS.setI σ 34 ((σ.i 34) - 1))
noncomputable def f_X1_close (N : Nat) (σ : CS) (x1 : Int32) : Option (Unit × CS) :=
  (f_X1_found N σ x1).bind fun p1 => (if p1.1 = 0 then (f_X1_misplaced N p1.2).bind fun p6 => f_X1_close_22 N p6.2 else (f_X9_advance N p1.2).bind fun p10 => f_X1_close_22 N p10.2)
noncomputable def b_X1_product_6 (N : Nat) (E1 : CS → Option (Unit × CS)) (E2 : CS → Option (Int32 × CS)) (K : CS → Int32 → Option (Unit × CS)) (σ : CS) (x1 : Int32) : Option (Unit × CS) :=
  (if 900 ≤ x1 then some ((), σ) else (f_X1_found N σ 42).bind fun p6 => (if p6.1 = 0 then (f_X1_found N p6.2 47).bind fun p57 => (if p57.1 = 0 then (f_X1_found N p57.2 37).bind fun p108 => (if p108.1 = 0 then some ((), p108.2) else (f_X1_found N p108.2 42).bind fun p113 => (if p113.1 = 0 then (f_X1_found N p113.2 47).bind fun p118 => (if p118.1 = 0 then (f_X9_advance N p118.2).bind fun p123 => (E1 p123.2).bind fun p127 => (f_X0_add N p127.2 11 0).bind fun p131 => K p131.2 (x1 + 1) else (f_X9_advance N p118.2).bind fun p135 => (E1 p135.2).bind fun p139 => (f_X0_add N p139.2 10 0).bind fun p143 => K p143.2 (x1 + 1)) else (f_X9_advance N p113.2).bind fun p147 => (E1 p147.2).bind fun p151 => (f_X0_add N p151.2 9 0).bind fun p155 => K p155.2 (x1 + 1))) else (f_X1_found N p57.2 42).bind fun p62 => (if p62.1 = 0 then (f_X1_found N p62.2 47).bind fun p67 => (if p67.1 = 0 then (f_X9_advance N p67.2).bind fun p72 => (E1 p72.2).bind fun p76 => (f_X0_add N p76.2 11 0).bind fun p80 => K p80.2 (x1 + 1) else (f_X9_advance N p67.2).bind fun p84 => (E1 p84.2).bind fun p88 => (f_X0_add N p88.2 10 0).bind fun p92 => K p92.2 (x1 + 1)) else (f_X9_advance N p62.2).bind fun p96 => (E1 p96.2).bind fun p100 => (f_X0_add N p100.2 9 0).bind fun p104 => K p104.2 (x1 + 1))) else (f_X1_found N p6.2 42).bind fun p11 => (if p11.1 = 0 then (f_X1_found N p11.2 47).bind fun p16 => (if p16.1 = 0 then (f_X9_advance N p16.2).bind fun p21 => (E1 p21.2).bind fun p25 => (f_X0_add N p25.2 11 0).bind fun p29 => K p29.2 (x1 + 1) else (f_X9_advance N p16.2).bind fun p33 => (E1 p33.2).bind fun p37 => (f_X0_add N p37.2 10 0).bind fun p41 => K p41.2 (x1 + 1)) else (f_X9_advance N p11.2).bind fun p45 => (E1 p45.2).bind fun p49 => (f_X0_add N p49.2 9 0).bind fun p53 => K p53.2 (x1 + 1))))
noncomputable def f_X1_product_6 (N : Nat) (E1 : CS → Option (Unit × CS)) (E2 : CS → Option (Int32 × CS)) : Nat → CS → Int32 → Option (Unit × CS)
  | 0 => fun _ _ => none
  | n+1 => b_X1_product_6 N E1 E2 (f_X1_product_6 N E1 E2 n)
noncomputable def f_X1_product (N : Nat) (E1 : CS → Option (Unit × CS)) (E2 : CS → Option (Int32 × CS)) (σ : CS) : Option (Unit × CS) :=
  (E1 σ).bind fun p1 => f_X1_product_6 N E1 E2 N p1.2 0
noncomputable def b_X1_expression_6 (N : Nat) (E1 : CS → Option (Unit × CS)) (E2 : CS → Option (Int32 × CS)) (K : CS → Int32 → Option (Unit × CS)) (σ : CS) (x1 : Int32) : Option (Unit × CS) :=
  (if 900 ≤ x1 then some ((), σ) else (f_X1_found N σ 43).bind fun p6 => (if p6.1 = 0 then (f_X1_found N p6.2 45).bind fun p40 => (if p40.1 = 0 then some ((), p40.2) else (f_X1_found N p40.2 43).bind fun p45 => (if p45.1 = 0 then (f_X9_advance N p45.2).bind fun p50 => (f_X1_product N E1 E2 p50.2).bind fun p54 => (f_X0_add N p54.2 8 0).bind fun p58 => K p58.2 (x1 + 1) else (f_X9_advance N p45.2).bind fun p62 => (f_X1_product N E1 E2 p62.2).bind fun p66 => (f_X0_add N p66.2 7 0).bind fun p70 => K p70.2 (x1 + 1))) else (f_X1_found N p6.2 43).bind fun p11 => (if p11.1 = 0 then (f_X9_advance N p11.2).bind fun p16 => (f_X1_product N E1 E2 p16.2).bind fun p20 => (f_X0_add N p20.2 8 0).bind fun p24 => K p24.2 (x1 + 1) else (f_X9_advance N p11.2).bind fun p28 => (f_X1_product N E1 E2 p28.2).bind fun p32 => (f_X0_add N p32.2 7 0).bind fun p36 => K p36.2 (x1 + 1))))
noncomputable def f_X1_expression_6 (N : Nat) (E1 : CS → Option (Unit × CS)) (E2 : CS → Option (Int32 × CS)) : Nat → CS → Int32 → Option (Unit × CS)
  | 0 => fun _ _ => none
  | n+1 => b_X1_expression_6 N E1 E2 (f_X1_expression_6 N E1 E2 n)
noncomputable def f_X1_expression (N : Nat) (E1 : CS → Option (Unit × CS)) (E2 : CS → Option (Int32 × CS)) (σ : CS) : Option (Unit × CS) :=
  (f_X1_product N E1 E2 σ).bind fun p1 => f_X1_expression_6 N E1 E2 N p1.2 0
noncomputable def f_X4_find_38 (N : Nat) (σ : CS) : Option (Int32 × CS) :=
  some ((-1), σ)
noncomputable def b_X4_find_2 (N : Nat) (K : CS → Int64 → Int32 → Option (Int32 × CS)) (σ : CS) (x1 : Int64) (x3 : Int32) : Option (Int32 × CS) :=
  (if (σ.i 50) ≤ x3 then f_X4_find_38 N σ else (if 128 ≤ x3 then f_X4_find_38 N σ else if ib x3 128 then (if (lg_cmp ((σ.b 47) ((x3 : Int32).toNatClampNeg)) x1) = 0 then some (x3, σ) else K σ x1 (x3 + 1)) else none))
noncomputable def f_X4_find_2 (N : Nat) : Nat → CS → Int64 → Int32 → Option (Int32 × CS)
  | 0 => fun _ _ _ => none
  | n+1 => b_X4_find_2 N (f_X4_find_2 N n)
noncomputable def f_X4_find (N : Nat) (σ : CS) (x1 : Int64) : Option (Int32 × CS) :=
  f_X4_find_2 N N σ x1 0
noncomputable def f_X4_cellOf (N : Nat) (σ : CS) (x1 : Int32) : Option (Int32 × CS) :=
  some ((gAt (σ.a 48) 128 x1), σ)
noncomputable def f_X1_loadName (N : Nat) (σ : CS) : Option (Unit × CS) :=
  (f_X4_find N σ σ.l).bind fun p1 => (if 0 ≤ p1.1 then (f_X4_cellOf N p1.2 p1.1).bind fun p6 => (f_X0_add N p6.2 1 p6.1).bind fun p10 => (f_X9_advance N p10.2).bind fun p14 => some ((), p14.2) else (f_X1_fail N p1.2 3 (p1.2.i 44)).bind fun p18 => some ((), p18.2))
noncomputable def f_X1_negated_17 (N : Nat) (E1 : CS → Option (Unit × CS)) (E2 : CS → Option (Int32 × CS)) (σ : CS) : Option (Unit × CS) :=
  (f_X0_add N (CS.setI σ 34 ((σ.i 34) - 1)) 4 0).bind fun p6 => some ((), p6.2)
noncomputable def f_X1_negated (N : Nat) (E1 : CS → Option (Unit × CS)) (E2 : CS → Option (Int32 × CS)) (σ : CS) : Option (Unit × CS) :=
  (f_X1_open N σ 45).bind fun p1 => (if (p1.2.i 32) = 0 then (E1 p1.2).bind fun p10 => f_X1_negated_17 N E1 E2 p10.2 else f_X1_negated_17 N E1 E2 p1.2)
noncomputable def f_X1_caseNumber_44 (N : Nat) (σ : CS) (x1 : Int32) (x2 : Int32) (x4 : Int32) : Option (Unit × CS) :=
  (f_X0_hasCase N σ x1 x4).bind fun p11 => (if p11.1 = 0 then (f_X0_addCase N p11.2 x4 x2).bind fun p16 => (f_X9_advance N p16.2).bind fun p20 => some ((), p20.2) else (f_X1_fail N p11.2 4 (p11.2.i 44)).bind fun p24 => some ((), p24.2))
noncomputable def f_X1_caseNumber (N : Nat) (σ : CS) (x1 : Int32) (x2 : Int32) : Option (Unit × CS) :=
  (f_X1_skip N σ 45).bind fun p1 => (f_X1_found N p1.2 1).bind fun p5 => (if p5.1 = 0 then (f_X1_misplaced N p5.2).bind fun p28 => some ((), p28.2) else (if p1.1 = 0 then f_X1_caseNumber_44 N p5.2 x1 x2 (p5.2.i 45) else f_X1_caseNumber_44 N p5.2 x1 x2 (-(p5.2.i 45))))
noncomputable def f_X5_init (N : Nat) (σ : CS) (x0 : Nat) : Option (Unit × CS) :=
  some ((), σ)
noncomputable def f_X6_push_48 (N : Nat) (σ : CS) (x1 : Int32) (x2 : Int32) (x3 : Int32) (x4 : Int32) (x5 : Nat) : Option (Option Nat × CS) :=
  if oK σ x5 0 then some ((some x5), CS.setO (CS.setO (CS.setO (CS.setO (CS.setO (CS.setO (CS.setO (CS.setO (CS.setO (CS.setOl (CS.setO (CS.setO (CS.setO (CS.setO (CS.setI (CS.setI σ 53 (x4 + 1)) 54 ((σ.i 54) + 1)) x5 0 x1) x5 1 ((σ.i 54) + 1)) x5 2 x2) x5 3 x3) x5 0) x5 5 0) x5 6 0) x5 7 0) x5 8 0) x5 9 (-1)) x5 10 (-1)) x5 11 (-1)) x5 12 0) x5 14 (σ.i 55)) else none
noncomputable def f_X6_push (N : Nat) (σ : CS) (x1 : Int32) (x2 : Int32) (x3 : Int32) : Option (Option Nat × CS) :=
  if ib (if (399 : Int32) < (σ.i 53) then (399 : Int32) else (σ.i 53)) 400 then oCase (CS.r σ 51 (((if (399 : Int32) < (σ.i 53) then (399 : Int32) else (σ.i 53)) : Int32).toNatClampNeg)) ((f_X5_init N (CS.new σ 0) (CS.hs σ)).bind fun p5 => if ib (if (399 : Int32) < (σ.i 53) then (399 : Int32) else (σ.i 53)) 400 then if oK p5.2 (CS.hs σ) 0 then f_X6_push_48 N (CS.setR p5.2 51 (((if (399 : Int32) < (σ.i 53) then (399 : Int32) else (σ.i 53)) : Int32).toNatClampNeg) (some (CS.hs σ))) x1 x2 x3 (if (399 : Int32) < (σ.i 53) then (399 : Int32) else (σ.i 53)) (CS.hs σ) else none else none) (fun a3 => f_X6_push_48 N σ x1 x2 x3 (if (399 : Int32) < (σ.i 53) then (399 : Int32) else (σ.i 53)) a3) else none
noncomputable def f_X6_row_30 (N : Nat) (σ : CS) : Option (Option Nat × CS) :=
  some (none, σ)
noncomputable def f_X6_row (N : Nat) (σ : CS) (x1 : Int32) : Option (Option Nat × CS) :=
  (if x1 < 0 then f_X6_row_30 N σ else (if (σ.i 53) ≤ x1 then f_X6_row_30 N σ else (if 400 ≤ x1 then f_X6_row_30 N σ else if ib x1 400 then oCase (CS.r σ 51 ((x1 : Int32).toNatClampNeg)) (some (none, σ)) (fun a6 => some ((some a6), σ)) else none)))
noncomputable def f_X5_isLoop_40 (N : Nat) (σ : CS) : Option (Int32 × CS) :=
  some (1, σ)
noncomputable def f_X5_isLoop (N : Nat) (σ : CS) (x0 : Nat) : Option (Int32 × CS) :=
  if oK σ x0 0 then (if (CS.o σ x0 0) = 205 then f_X5_isLoop_40 N σ else (if (CS.o σ x0 0) = 206 then f_X5_isLoop_40 N σ else (if (CS.o σ x0 0) = 207 then f_X5_isLoop_40 N σ else (if (CS.o σ x0 0) = 304 then f_X5_isLoop_40 N σ else some (0, σ))))) else none
noncomputable def f_X5_hasOneBody_37 (N : Nat) (σ : CS) : Option (Int32 × CS) :=
  some (1, σ)
noncomputable def f_X5_hasOneBody (N : Nat) (σ : CS) (x0 : Nat) : Option (Int32 × CS) :=
  if oK σ x0 0 then (f_X5_isLoop N σ x0).bind fun p3 => (if p3.1 = 0 then if oK p3.2 x0 0 then (if (CS.o p3.2 x0 0) = 303 then f_X5_hasOneBody_37 N p3.2 else (if (CS.o p3.2 x0 0) = 203 then f_X5_hasOneBody_37 N p3.2 else (if (CS.o p3.2 x0 0) = 204 then f_X5_hasOneBody_37 N p3.2 else some (0, p3.2)))) else none else f_X5_hasOneBody_37 N p3.2) else none
noncomputable def f_X6_pop (N : Nat) (σ : CS) : Option (Unit × CS) :=
  some ((), CS.setI σ 53 (if 0 < ((σ.i 53) - 1) then ((σ.i 53) - 1) else 0))
noncomputable def f_X7_endIf (N : Nat) (σ : CS) (x1 : Nat) : Option (Unit × CS) :=
  (f_X1_skip N σ 204).bind fun p1 => (if p1.1 = 0 then if oK p1.2 x1 0 then (f_X0_aim N p1.2 (CS.o p1.2 x1 10)).bind fun p23 => (f_X6_pop N (CS.setI p23.2 36 1)).bind fun p27 => some ((), p27.2) else none else if oK p1.2 x1 0 then if (p1.2.i 36) = 0 ∨ (p1.2.i 36) = 1 then (f_X0_newTarget N (CS.setO (CS.setO (CS.setO p1.2 x1 0 204) x1 5 0) x1 6 (p1.2.i 36))).bind fun p8 => if oK p8.2 x1 0 then (f_X0_add N (CS.setO p8.2 x1 9 p8.1) 30 (CS.o (CS.setO p8.2 x1 9 p8.1) x1 9)).bind fun p13 => if oK p13.2 x1 0 then (f_X0_aim N p13.2 (CS.o p13.2 x1 10)).bind fun p18 => some ((), CS.setI p18.2 36 1) else none else none else none else none)
noncomputable def f_X6_jumpTo (N : Nat) (σ : CS) (x0 : Nat) (x1 : Int32) : Option (Int32 × CS) :=
  if oK σ x0 0 then (if x1 = 0 then some (((2 * (CS.o σ x0 1)) + 0), σ) else some (((2 * (CS.o σ x0 1)) + 1), σ)) else none
noncomputable def b_X6_isGoneTo_5 (N : Nat) (K : CS → Nat → Int32 → Int32 → Option (Int32 × CS)) (σ : CS) (x1 : Nat) (x2 : Int32) (x3 : Int32) : Option (Int32 × CS) :=
  (if (σ.i 55) ≤ x3 then some (0, σ) else (f_X6_jumpTo N σ x1 x2).bind fun p4 => (if (gAt (σ.a 52) 160 x3) = p4.1 then some (1, p4.2) else K p4.2 x1 x2 (x3 + 1)))
noncomputable def f_X6_isGoneTo_5 (N : Nat) : Nat → CS → Nat → Int32 → Int32 → Option (Int32 × CS)
  | 0 => fun _ _ _ _ => none
  | n+1 => b_X6_isGoneTo_5 N (f_X6_isGoneTo_5 N n)
noncomputable def f_X6_isGoneTo (N : Nat) (σ : CS) (x1 : Nat) (x2 : Int32) : Option (Int32 × CS) :=
  if oK σ x1 0 then f_X6_isGoneTo_5 N N σ x1 x2 (CS.o σ x1 14) else none
noncomputable def f_X1_conjunction_65 (N : Nat) (E1 : CS → Option (Unit × CS)) (E2 : CS → Option (Int32 × CS)) (σ : CS) (x2 : Int32) : Option (Int32 × CS) :=
  (f_X0_aim N σ x2).bind fun p15 => some (0, p15.2)
noncomputable def b_X1_conjunction_27 (N : Nat) (E1 : CS → Option (Unit × CS)) (E2 : CS → Option (Int32 × CS)) (K : CS → Int32 → Int32 → Option (Int32 × CS)) (σ : CS) (x2 : Int32) (x3 : Int32) : Option (Int32 × CS) :=
  (if 900 ≤ x3 then f_X1_conjunction_65 N E1 E2 σ x2 else (f_X1_skip N σ 132).bind fun p19 => (if p19.1 = 0 then f_X1_conjunction_65 N E1 E2 p19.2 x2 else (f_X0_add N p19.2 32 x2).bind fun p24 => (E2 p24.2).bind fun p28 => K p28.2 x2 (x3 + 1)))
noncomputable def f_X1_conjunction_27 (N : Nat) (E1 : CS → Option (Unit × CS)) (E2 : CS → Option (Int32 × CS)) : Nat → CS → Int32 → Int32 → Option (Int32 × CS)
  | 0 => fun _ _ _ => none
  | n+1 => b_X1_conjunction_27 N E1 E2 (f_X1_conjunction_27 N E1 E2 n)
noncomputable def f_X1_conjunction (N : Nat) (E1 : CS → Option (Unit × CS)) (E2 : CS → Option (Int32 × CS)) (σ : CS) : Option (Int32 × CS) :=
  (E2 σ).bind fun p1 => (f_X1_found N p1.2 132).bind fun p5 => (if p5.1 = 0 then if p1.1 = 0 ∨ p1.1 = 1 then some (p1.1, p5.2) else none else (f_X0_newTarget N p5.2).bind fun p10 => f_X1_conjunction_27 N E1 E2 N p10.2 p10.1 0)
noncomputable def f_X1_condition_65 (N : Nat) (E1 : CS → Option (Unit × CS)) (E2 : CS → Option (Int32 × CS)) (σ : CS) (x2 : Int32) : Option (Int32 × CS) :=
  (f_X0_aim N σ x2).bind fun p15 => some (0, p15.2)
noncomputable def b_X1_condition_27 (N : Nat) (E1 : CS → Option (Unit × CS)) (E2 : CS → Option (Int32 × CS)) (K : CS → Int32 → Int32 → Option (Int32 × CS)) (σ : CS) (x2 : Int32) (x3 : Int32) : Option (Int32 × CS) :=
  (if 900 ≤ x3 then f_X1_condition_65 N E1 E2 σ x2 else (f_X1_skip N σ 133).bind fun p19 => (if p19.1 = 0 then f_X1_condition_65 N E1 E2 p19.2 x2 else (f_X0_add N p19.2 33 x2).bind fun p24 => (f_X1_conjunction N E1 E2 p24.2).bind fun p28 => K p28.2 x2 (x3 + 1)))
noncomputable def f_X1_condition_27 (N : Nat) (E1 : CS → Option (Unit × CS)) (E2 : CS → Option (Int32 × CS)) : Nat → CS → Int32 → Int32 → Option (Int32 × CS)
  | 0 => fun _ _ _ => none
  | n+1 => b_X1_condition_27 N E1 E2 (f_X1_condition_27 N E1 E2 n)
noncomputable def f_X1_condition (N : Nat) (E1 : CS → Option (Unit × CS)) (E2 : CS → Option (Int32 × CS)) (σ : CS) : Option (Int32 × CS) :=
  (f_X1_conjunction N E1 E2 σ).bind fun p1 => (f_X1_found N p1.2 133).bind fun p5 => (if p5.1 = 0 then if p1.1 = 0 ∨ p1.1 = 1 then some (p1.1, p5.2) else none else (f_X0_newTarget N p5.2).bind fun p10 => f_X1_condition_27 N E1 E2 N p10.2 p10.1 0)
noncomputable def f_X7_conditionInside (N : Nat) (E1 : CS → Option (Unit × CS)) (E2 : CS → Option (Int32 × CS)) (σ : CS) : Option (Int32 × CS) :=
  (f_X1_open N σ 40).bind fun p1 => (f_X1_condition N E1 E2 p1.2).bind fun p5 => (f_X1_close N p5.2 41).bind fun p9 => if p5.1 = 0 ∨ p5.1 = 1 then some (p5.1, p9.2) else none
noncomputable def f_X7_endDo_25 (N : Nat) (E1 : CS → Option (Unit × CS)) (E2 : CS → Option (Int32 × CS)) (σ : CS) (x1 : Nat) (x2 : Int32) : Option (Unit × CS) :=
  (f_X1_expect N σ 205).bind fun p2 => if oK p2.2 x1 0 then (f_X0_aim N p2.2 (CS.o p2.2 x1 10)).bind fun p7 => (f_X7_conditionInside N E1 E2 p7.2).bind fun p11 => (f_X1_expect N p11.2 59).bind fun p15 => if oK p15.2 x1 0 then (f_X0_add N p15.2 31 (CS.o p15.2 x1 9)).bind fun p20 => if oK p20.2 x1 0 then (f_X0_add N p20.2 30 (CS.o p20.2 x1 11)).bind fun p25 => if oK p25.2 x1 0 then (f_X0_aim N p25.2 (CS.o p25.2 x1 9)).bind fun p30 => (if x2 = 0 then (f_X6_isGoneTo N p30.2 x1 0).bind fun p35 => (if p35.1 = 0 then some ((), CS.setI p35.2 36 0) else some ((), CS.setI p35.2 36 1)) else (if p11.1 = 0 then some ((), CS.setI p30.2 36 1) else (f_X6_isGoneTo N p30.2 x1 0).bind fun p41 => (if p41.1 = 0 then some ((), CS.setI p41.2 36 0) else some ((), CS.setI p41.2 36 1)))) else none else none else none else none
noncomputable def f_X7_endDo_19 (N : Nat) (E1 : CS → Option (Unit × CS)) (E2 : CS → Option (Int32 × CS)) (σ : CS) (x1 : Nat) : Option (Unit × CS) :=
  f_X7_endDo_25 N E1 E2 σ x1 1
noncomputable def f_X7_endDo (N : Nat) (E1 : CS → Option (Unit × CS)) (E2 : CS → Option (Int32 × CS)) (σ : CS) (x1 : Nat) : Option (Unit × CS) :=
  (if (σ.i 36) = 0 then (f_X6_isGoneTo N σ x1 1).bind fun p46 => (if p46.1 = 0 then f_X7_endDo_25 N E1 E2 p46.2 x1 0 else f_X7_endDo_19 N E1 E2 p46.2 x1) else f_X7_endDo_19 N E1 E2 σ x1)
noncomputable def f_X7_endBody_193 (N : Nat) (E1 : CS → Option (Unit × CS)) (E2 : CS → Option (Int32 × CS)) (σ : CS) (x1 : Nat) : Option (Unit × CS) :=
  if oK σ x1 0 then (f_X6_pop N (CS.setI σ 50 (CS.o σ x1 3))).bind fun p14 => some ((), p14.2) else none
noncomputable def f_X7_endBody_88 (N : Nat) (E1 : CS → Option (Unit × CS)) (E2 : CS → Option (Int32 × CS)) (σ : CS) (x1 : Nat) : Option (Unit × CS) :=
  f_X7_endBody_193 N E1 E2 σ x1
noncomputable def f_X7_endBody_130 (N : Nat) (E1 : CS → Option (Unit × CS)) (E2 : CS → Option (Int32 × CS)) (σ : CS) (x1 : Nat) : Option (Unit × CS) :=
  f_X7_endBody_193 N E1 E2 σ x1
noncomputable def f_X7_endBody (N : Nat) (E1 : CS → Option (Unit × CS)) (E2 : CS → Option (Int32 × CS)) (σ : CS) (x1 : Nat) : Option (Unit × CS) :=
  if oK σ x1 0 then (if (CS.o σ x1 0) = 203 then (f_X7_endIf N σ x1).bind fun p3 => some ((), p3.2) else (if (CS.o σ x1 0) = 204 then (f_X0_aim N σ (CS.o σ x1 9)).bind fun p8 => (if (p8.2.i 36) = 0 then if oK p8.2 x1 0 then (if (CS.o p8.2 x1 6) = 0 then f_X7_endBody_88 N E1 E2 (CS.setI p8.2 36 0) x1 else f_X7_endBody_88 N E1 E2 (CS.setI p8.2 36 1) x1) else none else f_X7_endBody_88 N E1 E2 (CS.setI p8.2 36 1) x1) else (if (CS.o σ x1 0) = 206 then (f_X7_endDo N E1 E2 σ x1).bind fun p21 => f_X7_endBody_193 N E1 E2 p21.2 x1 else (if (CS.o σ x1 0) = 303 then (f_X0_aim N σ (CS.o σ x1 9)).bind fun p26 => (if (p26.2.i 36) = 0 then (f_X6_isGoneTo N p26.2 x1 0).bind fun p31 => (if p31.1 = 0 then f_X7_endBody_130 N E1 E2 (CS.setI p31.2 36 0) x1 else f_X7_endBody_130 N E1 E2 (CS.setI p31.2 36 1) x1) else f_X7_endBody_130 N E1 E2 (CS.setI p26.2 36 1) x1) else (f_X0_add N σ 30 (CS.o σ x1 10)).bind fun p36 => if oK p36.2 x1 0 then (f_X0_aim N p36.2 (CS.o p36.2 x1 9)).bind fun p41 => if oK p41.2 x1 0 then (if (CS.o p41.2 x1 7) = 0 then f_X7_endBody_193 N E1 E2 (CS.setI p41.2 36 1) x1 else (f_X6_isGoneTo N p41.2 x1 0).bind fun p47 => (if p47.1 = 0 then f_X7_endBody_193 N E1 E2 (CS.setI p47.2 36 0) x1 else f_X7_endBody_193 N E1 E2 (CS.setI p47.2 36 1) x1)) else none else none)))) else none
noncomputable def f_X7_notReached (N : Nat) (σ : CS) (x1 : Int32) : Option (Unit × CS) :=
  (if 0 ≤ (σ.i 37) then some ((), σ) else some ((), CS.setI σ 37 x1))
noncomputable def f_X4_isCaught (N : Nat) (σ : CS) (x1 : Int32) : Option (Int32 × CS) :=
  (if (gAt (σ.a 49) 128 x1) < 0 then some (0, σ) else some (1, σ))
noncomputable def f_X7_change_63 (N : Nat) (E1 : CS → Option (Unit × CS)) (E2 : CS → Option (Int32 × CS)) (σ : CS) (x3 : Int32) : Option (Unit × CS) :=
  (f_X1_fail N σ 3 x3).bind fun p11 => some ((), p11.2)
noncomputable def f_X7_change_72 (N : Nat) (E1 : CS → Option (Unit × CS)) (E2 : CS → Option (Int32 × CS)) (σ : CS) (x5 : Int32) (x6 : Int32) : Option (Unit × CS) :=
  (if x6 = 0 then (f_X1_misplaced N σ).bind fun p46 => some ((), p46.2) else (f_X1_skip N σ 135).bind fun p17 => (if p17.1 = 0 then (f_X9_advance N p17.2).bind fun p22 => (f_X1_expression N E1 E2 p22.2).bind fun p26 => (f_X4_cellOf N p26.2 x5).bind fun p30 => (f_X0_add N p30.2 2 p30.1).bind fun p34 => some ((), p34.2) else (f_X4_cellOf N p17.2 x5).bind fun p38 => (f_X0_add N p38.2 3 p38.1).bind fun p42 => some ((), p42.2)))
noncomputable def f_X7_change_41 (N : Nat) (E1 : CS → Option (Unit × CS)) (E2 : CS → Option (Int32 × CS)) (σ : CS) (x3 : Int32) (x5 : Int32) (x6 : Int32) : Option (Unit × CS) :=
  (if x5 < 0 then f_X7_change_63 N E1 E2 σ x3 else (if x6 = 0 then f_X7_change_72 N E1 E2 σ x5 x6 else (f_X4_isCaught N σ x5).bind fun p50 => (if p50.1 = 0 then f_X7_change_72 N E1 E2 p50.2 x5 x6 else f_X7_change_63 N E1 E2 p50.2 x3)))
noncomputable def f_X7_change_34 (N : Nat) (E1 : CS → Option (Unit × CS)) (E2 : CS → Option (Int32 × CS)) (σ : CS) (x3 : Int32) (x5 : Int32) : Option (Unit × CS) :=
  f_X7_change_41 N E1 E2 σ x3 x5 1
noncomputable def f_X7_change_38 (N : Nat) (E1 : CS → Option (Unit × CS)) (E2 : CS → Option (Int32 × CS)) (σ : CS) (x3 : Int32) (x5 : Int32) : Option (Unit × CS) :=
  f_X7_change_41 N E1 E2 σ x3 x5 0
noncomputable def f_X7_change (N : Nat) (E1 : CS → Option (Unit × CS)) (E2 : CS → Option (Int32 × CS)) (σ : CS) (x1 : Int64) (x3 : Int32) (x4 : Int32) : Option (Unit × CS) :=
  (f_X4_find N σ x1).bind fun p1 => (f_X1_found N p1.2 61).bind fun p5 => (if p5.1 = 0 then (if x4 = 0 then f_X7_change_38 N E1 E2 p5.2 x3 p1.1 else (f_X1_found N p5.2 135).bind fun p56 => (if p56.1 = 0 then f_X7_change_38 N E1 E2 p56.2 x3 p1.1 else f_X7_change_34 N E1 E2 p56.2 x3 p1.1)) else f_X7_change_34 N E1 E2 p5.2 x3 p1.1)
noncomputable def b_X6_labelled_7 (N : Nat) (K : CS → Int64 → Int32 → Option (Int32 × CS)) (σ : CS) (x1 : Int64) (x3 : Int32) : Option (Int32 × CS) :=
  (if x3 ≤ (σ.i 56) then some ((-1), σ) else (f_X6_row N σ x3).bind fun p2 => oCase p2.1 (K p2.2 x1 (x3 + (-1))) (fun a7 => if oK p2.2 a7 0 then (if (CS.o p2.2 a7 0) = 303 then (if (lg_cmp (CS.ol p2.2 a7) x1) = 0 then some (x3, p2.2) else K p2.2 x1 (x3 + (-1))) else K p2.2 x1 (x3 + (-1))) else none))
noncomputable def f_X6_labelled_7 (N : Nat) : Nat → CS → Int64 → Int32 → Option (Int32 × CS)
  | 0 => fun _ _ _ => none
  | n+1 => b_X6_labelled_7 N (f_X6_labelled_7 N n)
noncomputable def f_X6_labelled (N : Nat) (σ : CS) (x1 : Int64) : Option (Int32 × CS) :=
  f_X6_labelled_7 N N σ x1 ((σ.i 53) - 1)
noncomputable def f_X7_named_73 (N : Nat) (E1 : CS → Option (Unit × CS)) (E2 : CS → Option (Int32 × CS)) (σ : CS) (x1 : Int64) : Option (Unit × CS) :=
  (f_X9_advance N σ).bind fun p15 => (f_X6_push N p15.2 303 (p15.2.i 38) (p15.2.i 50)).bind fun p19 => oCase p19.1 (none) (fun a24 => if oK p19.2 a24 0 then (f_X0_newTarget N (CS.setOl p19.2 a24 x1)).bind fun p26 => if oK p26.2 a24 0 then some ((), CS.setO p26.2 a24 9 p26.1) else none else none)
noncomputable def f_X7_named (N : Nat) (E1 : CS → Option (Unit × CS)) (E2 : CS → Option (Int32 × CS)) (σ : CS) : Option (Unit × CS) :=
  (f_X9_advance N σ).bind fun p1 => (f_X1_found N p1.2 58).bind fun p5 => (if p5.1 = 0 then (f_X0_add N p5.2 51 0).bind fun p35 => (f_X7_change N E1 E2 p35.2 σ.l (σ.i 44) 1).bind fun p39 => (f_X1_expect N p39.2 59).bind fun p43 => some ((), p43.2) else (f_X6_labelled N p5.2 σ.l).bind fun p10 => (if p10.1 < 0 then f_X7_named_73 N E1 E2 p10.2 σ.l else (f_X1_fail N p10.2 4 (σ.i 44)).bind fun p31 => f_X7_named_73 N E1 E2 p31.2 σ.l))
noncomputable def f_X7_newName_56 (N : Nat) (σ : CS) (x1 : Int64) : Option (Int64 × CS) :=
  some (x1, σ)
noncomputable def f_X7_newName (N : Nat) (σ : CS) : Option (Int64 × CS) :=
  (f_X1_found N σ 2).bind fun p1 => (if p1.1 = 0 then (f_X1_misplaced N p1.2).bind fun p19 => f_X7_newName_56 N p19.2 σ.l else (f_X4_find N p1.2 σ.l).bind fun p6 => (if p6.1 < 0 then (f_X9_advance N p6.2).bind fun p11 => f_X7_newName_56 N p11.2 σ.l else (f_X1_fail N p6.2 4 (p6.2.i 44)).bind fun p15 => f_X7_newName_56 N p15.2 σ.l))
noncomputable def f_X4_add (N : Nat) (σ : CS) (x1 : Int64) (x3 : Int32) (x4 : Int32) : Option (Unit × CS) :=
  (if 128 ≤ (σ.i 50) then some ((), σ) else if ib (σ.i 50) 128 then some ((), CS.setI (CS.setA (CS.setA (CS.setB σ 47 (((σ.i 50) : Int32).toNatClampNeg) x1) 48 (((σ.i 50) : Int32).toNatClampNeg) x3) 49 (((σ.i 50) : Int32).toNatClampNeg) x4) 50 ((σ.i 50) + 1)) else none)
noncomputable def f_X7_tell (N : Nat) (σ : CS) (x1 : Int64) : Option (Int32 × CS) :=
  (f_X0_newCells N σ 1).bind fun p1 => (f_X4_add N p1.2 x1 p1.1 (-1)).bind fun p5 => some (p1.1, CS.setI p5.2 25 ((p5.2.i 25) + 1))
noncomputable def f_X7_define (N : Nat) (E1 : CS → Option (Unit × CS)) (E2 : CS → Option (Int32 × CS)) (σ : CS) (x1 : Int64) : Option (Unit × CS) :=
  (f_X1_expect N σ 61).bind fun p1 => (f_X1_expression N E1 E2 p1.2).bind fun p5 => (f_X7_tell N p5.2 x1).bind fun p9 => (f_X0_add N p9.2 2 p9.1).bind fun p13 => some ((), p13.2)
noncomputable def f_X6_loopBehind_47 (N : Nat) (σ : CS) : Option (Int32 × CS) :=
  some ((-1), σ)
noncomputable def f_X6_loopBehind_32 (N : Nat) (σ : CS) (x2 : Int32) (x3 : Option Nat) : Option (Int32 × CS) :=
  oCase x3 (f_X6_loopBehind_47 N σ) (fun a9 => if oK σ a9 0 then (f_X5_isLoop N σ a9).bind fun p12 => (if p12.1 = 0 then f_X6_loopBehind_47 N p12.2 else some (x2, p12.2)) else none)
noncomputable def b_X6_loopBehind_4 (N : Nat) (K : CS → Int32 → Option (Int32 × CS)) (σ : CS) (x2 : Int32) : Option (Int32 × CS) :=
  (if (σ.i 53) ≤ x2 then some ((-1), σ) else (f_X6_row N σ x2).bind fun p2 => oCase p2.1 (f_X6_loopBehind_32 N p2.2 x2 none) (fun a7 => if oK p2.2 a7 0 then (if (CS.o p2.2 a7 0) = 303 then K p2.2 (x2 + 1) else f_X6_loopBehind_32 N p2.2 x2 (some a7)) else none))
noncomputable def f_X6_loopBehind_4 (N : Nat) : Nat → CS → Int32 → Option (Int32 × CS)
  | 0 => fun _ _ => none
  | n+1 => b_X6_loopBehind_4 N (f_X6_loopBehind_4 N n)
noncomputable def f_X6_loopBehind (N : Nat) (σ : CS) (x1 : Int32) : Option (Int32 × CS) :=
  f_X6_loopBehind_4 N N σ (x1 + 1)
noncomputable def f_X7_labelTarget_63 (N : Nat) (σ : CS) (x2 : Int32) : Option (Int32 × CS) :=
  (f_X9_advance N σ).bind fun p7 => some (x2, p7.2)
noncomputable def f_X7_labelTarget (N : Nat) (σ : CS) (x1 : Int32) : Option (Int32 × CS) :=
  (f_X6_labelled N σ σ.l).bind fun p1 => (if 0 ≤ p1.1 then (if x1 = 0 then f_X7_labelTarget_63 N p1.2 p1.1 else (f_X6_loopBehind N p1.2 p1.1).bind fun p11 => (if 0 ≤ p11.1 then f_X7_labelTarget_63 N p11.2 p11.1 else (f_X1_fail N p11.2 5 (p11.2.i 44)).bind fun p16 => f_X7_labelTarget_63 N p16.2 p11.1)) else (f_X1_fail N p1.2 3 (p1.2.i 44)).bind fun p20 => f_X7_labelTarget_63 N p20.2 p1.1)
noncomputable def f_X6_nearest_46 (N : Nat) (σ : CS) (x2 : Int32) : Option (Int32 × CS) :=
  some (x2, σ)
noncomputable def b_X6_nearest_7 (N : Nat) (K : CS → Int32 → Int32 → Option (Int32 × CS)) (σ : CS) (x1 : Int32) (x2 : Int32) : Option (Int32 × CS) :=
  (if x2 ≤ (σ.i 56) then some ((-1), σ) else (f_X6_row N σ x2).bind fun p2 => oCase p2.1 (K p2.2 x1 (x2 + (-1))) (fun a7 => if oK p2.2 a7 0 then (f_X5_isLoop N p2.2 a7).bind fun p10 => (if p10.1 = 0 then (if x1 = 0 then if oK p10.2 a7 0 then (if (CS.o p10.2 a7 0) = 218 then f_X6_nearest_46 N p10.2 x2 else K p10.2 x1 (x2 + (-1))) else none else K p10.2 x1 (x2 + (-1))) else f_X6_nearest_46 N p10.2 x2) else none))
noncomputable def f_X6_nearest_7 (N : Nat) : Nat → CS → Int32 → Int32 → Option (Int32 × CS)
  | 0 => fun _ _ _ => none
  | n+1 => b_X6_nearest_7 N (f_X6_nearest_7 N n)
noncomputable def f_X6_nearest (N : Nat) (σ : CS) (x1 : Int32) : Option (Int32 × CS) :=
  f_X6_nearest_7 N N σ x1 ((σ.i 53) - 1)
noncomputable def f_X6_addJump (N : Nat) (σ : CS) (x1 : Nat) (x2 : Int32) : Option (Unit × CS) :=
  (f_X6_jumpTo N σ x1 x2).bind fun p1 => some ((), CS.setI (CS.putA p1.2 52 (gPut (p1.2.a 52) 160 (σ.i 55) p1.1)) 55 ((p1.2.i 55) + 1))
noncomputable def f_X7_leave (N : Nat) (σ : CS) (x1 : Int32) (x2 : Int32) : Option (Unit × CS) :=
  (if x2 = (σ.i 38) then (f_X0_add N σ 30 x1).bind fun p6 => some ((), p6.2) else (f_X0_add N σ 60 ((x1 * 32) + x2)).bind fun p2 => some ((), p2.2))
noncomputable def f_X7_jump_129 (N : Nat) (σ : CS) : Option (Unit × CS) :=
  some ((), CS.setI σ 36 0)
noncomputable def f_X7_jump_72 (N : Nat) (σ : CS) (x1 : Int32) (x3 : Int32) : Option (Unit × CS) :=
  (f_X1_expect N σ 59).bind fun p19 => (f_X6_row N p19.2 x3).bind fun p23 => oCase p23.1 (f_X7_jump_129 N p23.2) (fun a28 => (f_X6_addJump N p23.2 a28 x1).bind fun p29 => (if x1 = 0 then if oK p29.2 a28 0 then (f_X7_leave N p29.2 (CS.o p29.2 a28 9) (CS.o p29.2 a28 2)).bind fun p35 => f_X7_jump_129 N p35.2 else none else if oK p29.2 a28 0 then (f_X7_leave N p29.2 (CS.o p29.2 a28 10) (CS.o p29.2 a28 2)).bind fun p40 => f_X7_jump_129 N p40.2 else none))
noncomputable def f_X7_jump (N : Nat) (σ : CS) : Option (Unit × CS) :=
  (f_X1_found N σ 209).bind fun p1 => (f_X9_advance N (CS.setI p1.2 26 ((p1.2.i 26) + 1))).bind fun p5 => (f_X1_found N p5.2 2).bind fun p9 => (if p9.1 = 0 then (f_X6_nearest N p9.2 p1.1).bind fun p14 => (if 0 ≤ p14.1 then f_X7_jump_72 N p14.2 p1.1 p14.1 else (f_X1_fail N p14.2 5 (p1.2.i 44)).bind fun p44 => f_X7_jump_72 N p44.2 p1.1 p14.1) else (f_X7_labelTarget N p9.2 p1.1).bind fun p48 => f_X7_jump_72 N p48.2 p1.1 p48.1)
noncomputable def f_X7_giveBack_22 (N : Nat) (E1 : CS → Option (Unit × CS)) (E2 : CS → Option (Int32 × CS)) (σ : CS) : Option (Unit × CS) :=
  (f_X9_advance N σ).bind fun p2 => (f_X1_expression N E1 E2 p2.2).bind fun p6 => (f_X0_add N p6.2 62 0).bind fun p10 => (f_X1_expect N p10.2 59).bind fun p14 => some ((), CS.setI p14.2 36 0)
noncomputable def f_X7_giveBack (N : Nat) (E1 : CS → Option (Unit × CS)) (E2 : CS → Option (Int32 × CS)) (σ : CS) : Option (Unit × CS) :=
  (if (σ.i 56) < 0 then f_X7_giveBack_22 N E1 E2 σ else (f_X1_fail N σ 5 (σ.i 44)).bind fun p18 => f_X7_giveBack_22 N E1 E2 p18.2)
noncomputable def f_X7_yieldValue (N : Nat) (E1 : CS → Option (Unit × CS)) (E2 : CS → Option (Int32 × CS)) (σ : CS) : Option (Unit × CS) :=
  (f_X6_row N σ (σ.i 56)).bind fun p1 => oCase p1.1 ((f_X1_fail N p1.2 5 (p1.2.i 44)).bind fun p7 => some ((), p7.2)) (fun a6 => (f_X9_advance N p1.2).bind fun p11 => (f_X1_expression N E1 E2 p11.2).bind fun p15 => if oK p15.2 a6 0 then (f_X0_add N p15.2 61 (((CS.o p15.2 a6 9) * 32) + (CS.o p15.2 a6 2))).bind fun p20 => (f_X1_expect N p20.2 59).bind fun p24 => some ((), CS.setI p24.2 36 0) else none)
noncomputable def f_X10_isKind_16 (N : Nat) (σ : CS) : Option (Int32 × CS) :=
  some (0, σ)
noncomputable def f_X10_isKind (N : Nat) (σ : CS) (x1 : Int32) : Option (Int32 × CS) :=
  (if x1 < 0 then f_X10_isKind_16 N σ else (if (σ.i 13) ≤ x1 then f_X10_isKind_16 N σ else some (1, σ)))
noncomputable def f_X4_frameOf (N : Nat) (σ : CS) (x1 : Int32) : Option (Int32 × CS) :=
  some ((gAt (σ.a 49) 128 x1), σ)
noncomputable def f_X7_throwOne_152 (N : Nat) (E1 : CS → Option (Unit × CS)) (E2 : CS → Option (Int32 × CS)) (σ : CS) : Option (Unit × CS) :=
  (f_X1_expect N σ 59).bind fun p19 => some ((), CS.setI p19.2 36 0)
noncomputable def f_X7_throwOne_108 (N : Nat) (E1 : CS → Option (Unit × CS)) (E2 : CS → Option (Int32 × CS)) (σ : CS) : Option (Unit × CS) :=
  (f_X1_fail N σ 3 (σ.i 44)).bind fun p28 => some ((), p28.2)
noncomputable def f_X7_throwOne_46 (N : Nat) (E1 : CS → Option (Unit × CS)) (E2 : CS → Option (Int32 × CS)) (σ : CS) (x1 : Int32) : Option (Unit × CS) :=
  (f_X9_advance N σ).bind fun p54 => (f_X1_expression N E1 E2 p54.2).bind fun p58 => (f_X0_add N p58.2 63 x1).bind fun p62 => f_X7_throwOne_152 N E1 E2 p62.2
noncomputable def f_X7_throwOne (N : Nat) (E1 : CS → Option (Unit × CS)) (E2 : CS → Option (Int32 × CS)) (σ : CS) : Option (Unit × CS) :=
  (f_X9_advance N σ).bind fun p1 => (f_X1_found N p1.2 5).bind fun p5 => (if p5.1 = 0 then (f_X1_found N p5.2 2).bind fun p10 => (if p10.1 = 0 then (f_X1_misplaced N p10.2).bind fun p15 => f_X7_throwOne_152 N E1 E2 p15.2 else (f_X4_find N p10.2 p10.2.l).bind fun p23 => (if p23.1 < 0 then f_X7_throwOne_108 N E1 E2 p23.2 else (f_X4_isCaught N p23.2 p23.1).bind fun p32 => (if p32.1 = 0 then f_X7_throwOne_108 N E1 E2 p32.2 else (f_X4_frameOf N p32.2 p23.1).bind fun p37 => (f_X0_add N p37.2 64 p37.1).bind fun p41 => (f_X9_advance N p41.2).bind fun p45 => f_X7_throwOne_152 N E1 E2 p45.2))) else (f_X10_isKind N p5.2 (p5.2.i 45)).bind fun p49 => (if p49.1 = 0 then (f_X1_fail N p49.2 3 (p49.2.i 44)).bind fun p66 => f_X7_throwOne_46 N E1 E2 p66.2 (p5.2.i 45) else f_X7_throwOne_46 N E1 E2 p49.2 (p5.2.i 45)))
noncomputable def f_X7_claim_74 (N : Nat) (E1 : CS → Option (Unit × CS)) (E2 : CS → Option (Int32 × CS)) (σ : CS) (x1 : Int32) : Option (Unit × CS) :=
  (f_X0_add N σ 63 3).bind fun p34 => (f_X0_aim N p34.2 x1).bind fun p38 => (f_X1_expect N p38.2 59).bind fun p42 => some ((), p42.2)
noncomputable def f_X7_claim (N : Nat) (E1 : CS → Option (Unit × CS)) (E2 : CS → Option (Int32 × CS)) (σ : CS) : Option (Unit × CS) :=
  (f_X0_newTarget N σ).bind fun p1 => (f_X9_advance N p1.2).bind fun p5 => (f_X0_add N p5.2 35 p1.1).bind fun p9 => (f_X1_condition N E1 E2 p9.2).bind fun p13 => (f_X0_add N p13.2 5 0).bind fun p17 => (f_X0_add N p17.2 31 p1.1).bind fun p21 => (f_X1_skip N p21.2 58).bind fun p25 => (if p25.1 = 0 then (f_X0_add N p25.2 0 0).bind fun p30 => f_X7_claim_74 N E1 E2 p30.2 p1.1 else (f_X1_expression N E1 E2 p25.2).bind fun p46 => f_X7_claim_74 N E1 E2 p46.2 p1.1)
noncomputable def f_X7_beginIf (N : Nat) (E1 : CS → Option (Unit × CS)) (E2 : CS → Option (Int32 × CS)) (σ : CS) : Option (Unit × CS) :=
  (f_X0_newTarget N σ).bind fun p1 => (f_X9_advance N p1.2).bind fun p5 => (f_X7_conditionInside N E1 E2 p5.2).bind fun p9 => (f_X0_add N p9.2 31 p1.1).bind fun p13 => (f_X6_push N p13.2 203 (p13.2.i 38) (p13.2.i 50)).bind fun p17 => oCase p17.1 (none) (fun a22 => if oK p17.2 a22 0 then some ((), CS.setO p17.2 a22 10 p1.1) else none)
noncomputable def f_X7_pushLoop (N : Nat) (σ : CS) (x1 : Int32) (x2 : Int32) (x3 : Int32) : Option (Option Nat × CS) :=
  (f_X6_push N σ x1 (σ.i 38) (σ.i 50)).bind fun p1 => oCase p1.1 (none) (fun a6 => if oK p1.2 a6 0 then some ((some a6), CS.setO (CS.setO p1.2 a6 10 x2) a6 9 x3) else none)
noncomputable def f_X7_beginWhile (N : Nat) (E1 : CS → Option (Unit × CS)) (E2 : CS → Option (Int32 × CS)) (σ : CS) : Option (Unit × CS) :=
  (f_X0_newTarget N σ).bind fun p1 => (f_X0_newTarget N p1.2).bind fun p5 => (f_X9_advance N p5.2).bind fun p9 => (f_X0_aim N p9.2 p1.1).bind fun p13 => (f_X7_conditionInside N E1 E2 p13.2).bind fun p17 => (f_X0_add N p17.2 31 p5.1).bind fun p21 => (f_X0_add N p21.2 51 0).bind fun p25 => (f_X7_pushLoop N p25.2 205 p1.1 p5.1).bind fun p29 => oCase p29.1 (none) (fun a34 => if p17.1 = 0 ∨ p17.1 = 1 then if oK p29.2 a34 0 then some ((), CS.setO p29.2 a34 7 p17.1) else none else none)
noncomputable def f_X7_beginDo (N : Nat) (σ : CS) : Option (Unit × CS) :=
  (f_X0_newTarget N σ).bind fun p1 => (f_X0_newTarget N p1.2).bind fun p5 => (f_X7_pushLoop N p5.2 206 p1.1 p5.1).bind fun p9 => oCase p9.1 ((f_X0_newTarget N p9.2).bind fun p15 => none) (fun a14 => (f_X0_newTarget N p9.2).bind fun p19 => if oK p19.2 a14 0 then (f_X9_advance N (CS.setO p19.2 a14 11 p19.1)).bind fun p24 => if oK p24.2 a14 0 then (f_X0_aim N p24.2 (CS.o p24.2 a14 11)).bind fun p29 => (f_X0_add N p29.2 51 0).bind fun p33 => some ((), p33.2) else none else none)
noncomputable def f_X7_throwNull (N : Nat) (σ : CS) : Option (Unit × CS) :=
  (f_X0_add N σ 0 0).bind fun p1 => (f_X0_add N p1.2 63 1).bind fun p5 => some ((), p5.2)
noncomputable def f_X7_rowValues_60 (N : Nat) (E1 : CS → Option (Unit × CS)) (E2 : CS → Option (Int32 × CS)) (σ : CS) (x1 : Int32) : Option (Int32 × CS) :=
  (f_X0_newCells N σ (2 + x1)).bind fun p11 => (f_X0_add N p11.2 0 x1).bind fun p15 => (f_X0_add N p15.2 36 p11.1).bind fun p19 => some (p11.1, p19.2)
noncomputable def b_X7_rowValues_31 (N : Nat) (E1 : CS → Option (Unit × CS)) (E2 : CS → Option (Int32 × CS)) (K : CS → Int32 → Int32 → Option (Int32 × CS)) (σ : CS) (x1 : Int32) (x2 : Int32) : Option (Int32 × CS) :=
  (if 900 ≤ x2 then f_X7_rowValues_60 N E1 E2 σ x1 else (f_X1_skip N σ 44).bind fun p23 => (if p23.1 = 0 then f_X7_rowValues_60 N E1 E2 p23.2 x1 else (f_X1_expression N E1 E2 p23.2).bind fun p28 => K p28.2 (x1 + 1) (x2 + 1)))
noncomputable def f_X7_rowValues_31 (N : Nat) (E1 : CS → Option (Unit × CS)) (E2 : CS → Option (Int32 × CS)) : Nat → CS → Int32 → Int32 → Option (Int32 × CS)
  | 0 => fun _ _ _ => none
  | n+1 => b_X7_rowValues_31 N E1 E2 (f_X7_rowValues_31 N E1 E2 n)
noncomputable def f_X7_rowValues (N : Nat) (E1 : CS → Option (Unit × CS)) (E2 : CS → Option (Int32 × CS)) (σ : CS) : Option (Int32 × CS) :=
  (f_X1_skip N σ 224).bind fun p1 => (if p1.1 = 0 then (f_X1_expression N E1 E2 p1.2).bind fun p6 => f_X7_rowValues_31 N E1 E2 N p6.2 1 0 else (f_X7_throwNull N p1.2).bind fun p32 => (f_X0_newCells N p32.2 2).bind fun p36 => some (p36.1, p36.2))
noncomputable def f_X7_rowHead (N : Nat) (E1 : CS → Option (Unit × CS)) (E2 : CS → Option (Int32 × CS)) (σ : CS) (x1 : Int64) : Option (Option Nat × CS) :=
  (f_X0_newTarget N σ).bind fun p1 => (f_X0_newTarget N p1.2).bind fun p5 => (f_X9_advance N p5.2).bind fun p9 => (f_X7_rowValues N E1 E2 p9.2).bind fun p13 => (f_X1_close N p13.2 41).bind fun p17 => (f_X0_aim N p17.2 p1.1).bind fun p21 => (f_X0_add N p21.2 37 p13.1).bind fun p25 => (f_X0_add N p25.2 31 p5.1).bind fun p29 => (f_X0_add N p29.2 51 0).bind fun p33 => (f_X0_add N p33.2 38 p13.1).bind fun p37 => (f_X7_tell N p37.2 x1).bind fun p41 => (f_X0_add N p41.2 2 p41.1).bind fun p45 => (f_X7_pushLoop N p45.2 304 p1.1 p5.1).bind fun p49 => oCase p49.1 (some (none, p49.2)) (fun a54 => some ((some a54), p49.2))
noncomputable def f_X7_changeHere (N : Nat) (E1 : CS → Option (Unit × CS)) (E2 : CS → Option (Int32 × CS)) (σ : CS) (x1 : Int32) : Option (Unit × CS) :=
  (f_X9_advance N σ).bind fun p1 => (f_X7_change N E1 E2 p1.2 σ.l (σ.i 44) x1).bind fun p5 => some ((), p5.2)
noncomputable def f_X7_forHead_113 (N : Nat) (E1 : CS → Option (Unit × CS)) (E2 : CS → Option (Int32 × CS)) (σ : CS) (x1 : Int32) (x2 : Int32) (x3 : Int32) (x4 : Int32) (x5 : Int32) : Option (Option Nat × CS) :=
  (f_X1_close N σ 41).bind fun p47 => (f_X0_add N p47.2 30 x1).bind fun p51 => (f_X0_aim N p51.2 x3).bind fun p55 => (f_X0_add N p55.2 51 0).bind fun p59 => (f_X7_pushLoop N p59.2 207 x2 x4).bind fun p63 => oCase p63.1 (none) (fun a68 => if x5 = 0 ∨ x5 = 1 then if oK p63.2 a68 0 then some ((some a68), CS.setO p63.2 a68 7 x5) else none else none)
noncomputable def f_X7_forHead_76 (N : Nat) (E1 : CS → Option (Unit × CS)) (E2 : CS → Option (Int32 × CS)) (σ : CS) (x1 : Int32) (x2 : Int32) (x3 : Int32) (x4 : Int32) (x5 : Int32) : Option (Option Nat × CS) :=
  (f_X0_add N σ 30 x3).bind fun p30 => (f_X1_expect N p30.2 59).bind fun p34 => (f_X0_aim N p34.2 x2).bind fun p38 => (f_X1_found N p38.2 2).bind fun p42 => (if p42.1 = 0 then f_X7_forHead_113 N E1 E2 p42.2 x1 x2 x3 x4 x5 else (f_X7_changeHere N E1 E2 p42.2 1).bind fun p71 => f_X7_forHead_113 N E1 E2 p71.2 x1 x2 x3 x4 x5)
noncomputable def f_X7_forHead (N : Nat) (E1 : CS → Option (Unit × CS)) (E2 : CS → Option (Int32 × CS)) (σ : CS) : Option (Option Nat × CS) :=
  (f_X0_newTarget N σ).bind fun p1 => (f_X0_newTarget N p1.2).bind fun p5 => (f_X0_newTarget N p5.2).bind fun p9 => (f_X0_newTarget N p9.2).bind fun p13 => (f_X1_expect N p13.2 59).bind fun p17 => (f_X0_aim N p17.2 p1.1).bind fun p21 => (f_X1_found N p21.2 59).bind fun p25 => (if p25.1 = 0 then (f_X1_condition N E1 E2 p25.2).bind fun p75 => (f_X0_add N p75.2 31 p13.1).bind fun p79 => f_X7_forHead_76 N E1 E2 p79.2 p1.1 p5.1 p9.1 p13.1 p75.1 else f_X7_forHead_76 N E1 E2 p25.2 p1.1 p5.1 p9.1 p13.1 1)
noncomputable def f_X7_beginFor_85 (N : Nat) (E1 : CS → Option (Unit × CS)) (E2 : CS → Option (Int32 × CS)) (σ : CS) (x1 : Int32) (x2 : Option Nat) : Option (Unit × CS) :=
  oCase x2 (none) (fun a26 => if oK σ a26 0 then some ((), CS.setO σ a26 3 x1) else none)
noncomputable def f_X7_beginFor_80 (N : Nat) (E1 : CS → Option (Unit × CS)) (E2 : CS → Option (Int32 × CS)) (σ : CS) (x1 : Int32) : Option (Unit × CS) :=
  (f_X7_forHead N E1 E2 σ).bind fun p19 => oCase p19.1 (f_X7_beginFor_85 N E1 E2 p19.2 x1 none) (fun a24 => f_X7_beginFor_85 N E1 E2 p19.2 x1 (some a24))
noncomputable def f_X7_beginFor_64 (N : Nat) (E1 : CS → Option (Unit × CS)) (E2 : CS → Option (Int32 × CS)) (σ : CS) (x1 : Int32) (x2 : Option Nat) : Option (Unit × CS) :=
  f_X7_beginFor_85 N E1 E2 σ x1 x2
noncomputable def f_X7_beginFor (N : Nat) (E1 : CS → Option (Unit × CS)) (E2 : CS → Option (Int32 × CS)) (σ : CS) : Option (Unit × CS) :=
  (f_X9_advance N σ).bind fun p1 => (f_X1_open N p1.2 40).bind fun p5 => (f_X1_skip N p5.2 200).bind fun p9 => (if p9.1 = 0 then (f_X1_found N p9.2 2).bind fun p14 => (if p14.1 = 0 then f_X7_beginFor_80 N E1 E2 p14.2 (σ.i 50) else (f_X7_changeHere N E1 E2 p14.2 0).bind fun p28 => f_X7_beginFor_80 N E1 E2 p28.2 (σ.i 50)) else (f_X7_newName N p9.2).bind fun p32 => (f_X1_found N p32.2 58).bind fun p36 => (if p36.1 = 0 then (f_X7_define N E1 E2 p36.2 p32.1).bind fun p41 => (f_X7_forHead N E1 E2 p41.2).bind fun p45 => oCase p45.1 (f_X7_beginFor_64 N E1 E2 p45.2 (σ.i 50) none) (fun a50 => f_X7_beginFor_64 N E1 E2 p45.2 (σ.i 50) (some a50)) else (f_X7_rowHead N E1 E2 p36.2 p32.1).bind fun p51 => oCase p51.1 (f_X7_beginFor_64 N E1 E2 p51.2 (σ.i 50) none) (fun a56 => f_X7_beginFor_64 N E1 E2 p51.2 (σ.i 50) (some a56))))
noncomputable def f_X7_beginLock_58 (N : Nat) (σ : CS) : Option (Unit × CS) :=
  (f_X1_close N σ 41).bind fun p22 => (f_X1_open N p22.2 123).bind fun p26 => (f_X6_push N p26.2 212 (p26.2.i 38) (p26.2.i 50)).bind fun p30 => oCase p30.1 ((f_X0_newTarget N p30.2).bind fun p36 => none) (fun a35 => (f_X0_newTarget N p30.2).bind fun p40 => if oK p40.2 a35 0 then some ((), CS.setI (CS.setO p40.2 a35 9 p40.1) 38 ((p40.2.i 38) + 1)) else none)
noncomputable def f_X7_beginLock (N : Nat) (σ : CS) : Option (Unit × CS) :=
  (f_X9_advance N σ).bind fun p1 => (f_X1_open N p1.2 40).bind fun p5 => (f_X1_found N p5.2 3).bind fun p9 => (if p9.1 = 0 then (f_X1_expect N p9.2 224).bind fun p14 => (f_X7_throwNull N p14.2).bind fun p18 => f_X7_beginLock_58 N p18.2 else (f_X0_add N p9.2 53 (p9.2.i 45)).bind fun p45 => (f_X9_advance N p45.2).bind fun p49 => f_X7_beginLock_58 N p49.2)
noncomputable def f_X7_beginSwitch (N : Nat) (E1 : CS → Option (Unit × CS)) (E2 : CS → Option (Int32 × CS)) (σ : CS) : Option (Unit × CS) :=
  (f_X9_advance N σ).bind fun p1 => (f_X1_open N p1.2 40).bind fun p5 => (f_X1_expression N E1 E2 p5.2).bind fun p9 => (f_X1_close N p9.2 41).bind fun p13 => (f_X1_open N p13.2 123).bind fun p17 => (f_X6_push N p17.2 218 (p17.2.i 38) (p17.2.i 50)).bind fun p21 => oCase p21.1 ((f_X0_newTarget N p21.2).bind fun p27 => none) (fun a26 => (f_X0_newTarget N p21.2).bind fun p31 => if oK p31.2 a26 0 then (f_X0_newTarget N (CS.setO p31.2 a26 10 p31.1)).bind fun p36 => if oK p36.2 a26 0 then (f_X0_add N (CS.setO (CS.setO p36.2 a26 9 p36.1) a26 13 (p36.2.i 22)) 30 (CS.o (CS.setO (CS.setO p36.2 a26 9 p36.1) a26 13 (p36.2.i 22)) a26 10)).bind fun p41 => some ((), p41.2) else none else none)
noncomputable def f_X7_openResource (N : Nat) (σ : CS) : Option (Unit × CS) :=
  (f_X1_found N σ 4).bind fun p1 => (if p1.1 = 0 then (f_X1_misplaced N p1.2).bind fun p14 => some ((), p14.2) else (f_X0_add N p1.2 55 (p1.2.i 45)).bind fun p6 => (f_X9_advance N p6.2).bind fun p10 => some ((), p10.2))
noncomputable def f_X7_beginTry_132 (N : Nat) (σ : CS) : Option (Unit × CS) :=
  (f_X1_open N σ 123).bind fun p40 => some ((), p40.2)
noncomputable def b_X7_beginTry_106 (N : Nat) (K : CS → Int32 → Option (Unit × CS)) (σ : CS) (x2 : Int32) : Option (Unit × CS) :=
  (if 900 ≤ x2 then f_X7_beginTry_132 N σ else (f_X1_skip N σ 44).bind fun p50 => (if p50.1 = 0 then f_X7_beginTry_132 N p50.2 else (f_X7_openResource N p50.2).bind fun p55 => K p55.2 (x2 + 1)))
noncomputable def f_X7_beginTry_106 (N : Nat) : Nat → CS → Int32 → Option (Unit × CS)
  | 0 => fun _ _ => none
  | n+1 => b_X7_beginTry_106 N (f_X7_beginTry_106 N n)
noncomputable def f_X7_beginTry (N : Nat) (σ : CS) : Option (Unit × CS) :=
  (f_X6_push N σ 213 (σ.i 38) (σ.i 50)).bind fun p1 => oCase p1.1 ((f_X0_newTarget N p1.2).bind fun p7 => none) (fun a6 => (f_X0_newTarget N p1.2).bind fun p11 => if oK p11.2 a6 0 then (f_X0_newTarget N (CS.setO p11.2 a6 10 p11.1)).bind fun p16 => if oK p16.2 a6 0 then (f_X0_newTarget N (CS.setO p16.2 a6 11 p16.1)).bind fun p21 => if oK p21.2 a6 0 then (f_X9_advance N (CS.setO p21.2 a6 9 p21.1)).bind fun p26 => if oK p26.2 a6 0 then (f_X0_add N p26.2 54 (CS.o p26.2 a6 10)).bind fun p31 => (f_X1_skip N (CS.setI p31.2 38 ((p31.2.i 38) + 1)) 214).bind fun p35 => (if p35.1 = 0 then f_X7_beginTry_132 N p35.2 else if oK p35.2 a6 0 then (f_X7_openResource N (CS.setO p35.2 a6 8 1)).bind fun p45 => f_X7_beginTry_106 N N p45.2 0 else none) else none else none else none else none)
noncomputable def f_X7_compound (N : Nat) (E1 : CS → Option (Unit × CS)) (E2 : CS → Option (Int32 × CS)) (σ : CS) : Option (Unit × CS) :=
  (if (σ.i 43) = 203 then (f_X7_beginIf N E1 E2 σ).bind fun p2 => some ((), p2.2) else (if (σ.i 43) = 204 then (f_X1_misplaced N σ).bind fun p7 => some ((), p7.2) else (if (σ.i 43) = 205 then (f_X7_beginWhile N E1 E2 σ).bind fun p12 => some ((), p12.2) else (if (σ.i 43) = 206 then (f_X7_beginDo N σ).bind fun p17 => some ((), p17.2) else (if (σ.i 43) = 207 then (f_X7_beginFor N E1 E2 σ).bind fun p22 => some ((), p22.2) else (if (σ.i 43) = 208 then (f_X1_misplaced N σ).bind fun p27 => some ((), p27.2) else (if (σ.i 43) = 209 then (f_X1_misplaced N σ).bind fun p32 => some ((), p32.2) else (if (σ.i 43) = 210 then (f_X1_misplaced N σ).bind fun p37 => some ((), p37.2) else (if (σ.i 43) = 211 then (f_X1_misplaced N σ).bind fun p42 => some ((), p42.2) else (if (σ.i 43) = 212 then (f_X7_beginLock N σ).bind fun p47 => some ((), p47.2) else (if (σ.i 43) = 213 then (f_X7_beginTry N σ).bind fun p52 => some ((), p52.2) else (if (σ.i 43) = 214 then (f_X1_misplaced N σ).bind fun p57 => some ((), p57.2) else (if (σ.i 43) = 215 then (f_X1_misplaced N σ).bind fun p62 => some ((), p62.2) else (if (σ.i 43) = 216 then (f_X1_misplaced N σ).bind fun p67 => some ((), p67.2) else (if (σ.i 43) = 217 then (f_X1_misplaced N σ).bind fun p72 => some ((), p72.2) else (if (σ.i 43) = 218 then (f_X7_beginSwitch N E1 E2 σ).bind fun p77 => some ((), p77.2) else (f_X1_misplaced N σ).bind fun p81 => some ((), p81.2)))))))))))))))))
noncomputable def f_X7_plain (N : Nat) (E1 : CS → Option (Unit × CS)) (E2 : CS → Option (Int32 × CS)) (σ : CS) : Option (Unit × CS) :=
  (if (σ.i 43) = 59 then (f_X9_advance N σ).bind fun p2 => some ((), p2.2) else (if (σ.i 43) = 200 then (f_X9_advance N σ).bind fun p7 => (f_X7_newName N p7.2).bind fun p11 => (f_X7_define N E1 E2 p11.2 p11.1).bind fun p15 => (f_X1_expect N p15.2 59).bind fun p19 => some ((), p19.2) else (if (σ.i 43) = 201 then (f_X9_advance N σ).bind fun p24 => (f_X7_newName N p24.2).bind fun p28 => (f_X7_define N E1 E2 p28.2 p28.1).bind fun p32 => (f_X1_expect N p32.2 59).bind fun p36 => some ((), p36.2) else (if (σ.i 43) = 202 then (f_X9_advance N σ).bind fun p41 => (f_X1_expression N E1 E2 p41.2).bind fun p45 => (f_X0_add N p45.2 52 0).bind fun p49 => (f_X1_expect N p49.2 59).bind fun p53 => some ((), p53.2) else (if (σ.i 43) = 208 then (f_X7_jump N σ).bind fun p58 => some ((), p58.2) else (if (σ.i 43) = 209 then (f_X7_jump N σ).bind fun p63 => some ((), p63.2) else (if (σ.i 43) = 210 then (f_X7_giveBack N E1 E2 σ).bind fun p68 => some ((), p68.2) else (if (σ.i 43) = 211 then (f_X7_throwOne N E1 E2 σ).bind fun p73 => some ((), p73.2) else (if (σ.i 43) = 217 then (f_X7_claim N E1 E2 σ).bind fun p78 => some ((), p78.2) else (if (σ.i 43) = 221 then (f_X7_yieldValue N E1 E2 σ).bind fun p83 => some ((), p83.2) else (f_X7_compound N E1 E2 σ).bind fun p87 => some ((), p87.2)))))))))))
noncomputable def f_X7_statement_122 (N : Nat) (E1 : CS → Option (Unit × CS)) (E2 : CS → Option (Int32 × CS)) (σ : CS) : Option (Unit × CS) :=
  (f_X0_add N σ 51 0).bind fun p13 => (f_X7_plain N E1 E2 p13.2).bind fun p17 => some ((), p17.2)
noncomputable def f_X7_statement_115 (N : Nat) (E1 : CS → Option (Unit × CS)) (E2 : CS → Option (Int32 × CS)) (σ : CS) : Option (Unit × CS) :=
  (f_X1_misplaced N σ).bind fun p26 => some ((), p26.2)
noncomputable def f_X7_statement_18 (N : Nat) (E1 : CS → Option (Unit × CS)) (E2 : CS → Option (Int32 × CS)) (σ : CS) (x1 : Int32) : Option (Unit × CS) :=
  (f_X1_found N (CS.setI (CS.setI σ 36 1) 24 ((σ.i 24) + 1)) 2).bind fun p2 => (if p2.1 = 0 then (f_X1_found N p2.2 123).bind fun p7 => (if p7.1 = 0 then (if x1 = 0 then f_X7_statement_122 N E1 E2 p7.2 else (f_X1_found N p7.2 200).bind fun p21 => (if p21.1 = 0 then (f_X1_found N p21.2 201).bind fun p30 => (if p30.1 = 0 then f_X7_statement_122 N E1 E2 p30.2 else f_X7_statement_115 N E1 E2 p30.2) else f_X7_statement_115 N E1 E2 p21.2)) else (f_X1_open N p7.2 123).bind fun p35 => (f_X6_push N p35.2 301 (p35.2.i 38) (p35.2.i 50)).bind fun p39 => oCase p39.1 (some ((), p39.2)) (fun a44 => some ((), p39.2))) else (f_X7_named N E1 E2 p2.2).bind fun p45 => some ((), p45.2))
noncomputable def f_X7_statement (N : Nat) (E1 : CS → Option (Unit × CS)) (E2 : CS → Option (Int32 × CS)) (σ : CS) (x1 : Int32) : Option (Unit × CS) :=
  (if (σ.i 36) = 0 then (f_X7_notReached N σ (σ.i 44)).bind fun p49 => f_X7_statement_18 N E1 E2 p49.2 x1 else f_X7_statement_18 N E1 E2 σ x1)
noncomputable def f_X7_bodyTurn (N : Nat) (E1 : CS → Option (Unit × CS)) (E2 : CS → Option (Int32 × CS)) (σ : CS) (x1 : Nat) : Option (Unit × CS) :=
  if oK σ x1 0 then (if (CS.o σ x1 5) = 0 then (f_X7_statement N E1 E2 (CS.setO σ x1 5 1) 1).bind fun p3 => some ((), p3.2) else (f_X7_endBody N E1 E2 σ x1).bind fun p7 => some ((), p7.2)) else none
noncomputable def f_X10_isUnder_38 (N : Nat) (σ : CS) : Option (Int32 × CS) :=
  some (0, σ)
noncomputable def b_X10_isUnder_5 (N : Nat) (K : CS → Int32 → Int32 → Int32 → Option (Int32 × CS)) (σ : CS) (x2 : Int32) (x3 : Int32) (x4 : Int32) : Option (Int32 × CS) :=
  (if 12 ≤ x4 then f_X10_isUnder_38 N σ else (if x3 < 0 then f_X10_isUnder_38 N σ else (if x3 = x2 then some (1, σ) else K σ x2 (gAt (σ.a 9) 12 x3) (x4 + 1))))
noncomputable def f_X10_isUnder_5 (N : Nat) : Nat → CS → Int32 → Int32 → Int32 → Option (Int32 × CS)
  | 0 => fun _ _ _ _ => none
  | n+1 => b_X10_isUnder_5 N (f_X10_isUnder_5 N n)
noncomputable def f_X10_isUnder (N : Nat) (σ : CS) (x1 : Int32) (x2 : Int32) : Option (Int32 × CS) :=
  f_X10_isUnder_5 N N σ x2 x1 0
noncomputable def b_X7_caughtKind_47 (N : Nat) (K : CS → Nat → Int32 → Int32 → Int32 → Option (Unit × CS)) (σ : CS) (x1 : Nat) (x2 : Int32) (x3 : Int32) (x4 : Int32) : Option (Unit × CS) :=
  (if 12 ≤ x4 then if oK σ x1 0 then (f_X0_add N (CS.setO σ x1 12 ((CS.o σ x1 12) ||| ((1 : Int32) <<< (x3 &&& 31)))) 56 ((x2 * 16) + x3)).bind fun p13 => (f_X9_advance N p13.2).bind fun p17 => some ((), p17.2) else none else if oK σ x1 0 then (if (((CS.o σ x1 12) >>> (x4 &&& 31)) &&& 1) = 1 then (f_X10_isUnder N σ x3 x4).bind fun p23 => (if p23.1 = 0 then K p23.2 x1 x2 x3 (x4 + 1) else (f_X1_fail N p23.2 6 (p23.2.i 44)).bind fun p28 => K p28.2 x1 x2 x3 (x4 + 1)) else K σ x1 x2 x3 (x4 + 1)) else none)
noncomputable def f_X7_caughtKind_47 (N : Nat) : Nat → CS → Nat → Int32 → Int32 → Int32 → Option (Unit × CS)
  | 0 => fun _ _ _ _ _ => none
  | n+1 => b_X7_caughtKind_47 N (f_X7_caughtKind_47 N n)
noncomputable def f_X7_caughtKind_44 (N : Nat) (σ : CS) (x1 : Nat) (x2 : Int32) (x3 : Int32) : Option (Unit × CS) :=
  f_X7_caughtKind_47 N N σ x1 x2 x3 0
noncomputable def f_X7_caughtKind (N : Nat) (σ : CS) (x1 : Nat) (x2 : Int32) : Option (Unit × CS) :=
  (f_X1_found N σ 5).bind fun p1 => (if p1.1 = 0 then (f_X1_misplaced N p1.2).bind fun p36 => some ((), p36.2) else (f_X10_isKind N p1.2 (p1.2.i 45)).bind fun p6 => (if p6.1 = 0 then (f_X1_fail N p6.2 3 (p6.2.i 44)).bind fun p32 => f_X7_caughtKind_44 N p32.2 x1 x2 (p1.2.i 45) else f_X7_caughtKind_44 N p6.2 x1 x2 (p1.2.i 45)))
noncomputable def f_X7_beginCatch_80 (N : Nat) (σ : CS) (x1 : Nat) (x2 : Int32) : Option (Unit × CS) :=
  (f_X0_newCells N σ 1).bind fun p24 => (f_X7_newName N p24.2).bind fun p28 => (f_X4_add N p28.2 p28.1 p24.1 ((p28.2.i 38) - 1)).bind fun p32 => (f_X1_close N p32.2 41).bind fun p36 => (f_X1_open N p36.2 123).bind fun p40 => if oK p40.2 x1 0 then (f_X0_add N p40.2 30 (CS.o p40.2 x1 10)).bind fun p45 => (f_X0_aim N p45.2 x2).bind fun p49 => (f_X0_add N p49.2 57 p24.1).bind fun p53 => some ((), CS.setI p53.2 36 1) else none
noncomputable def b_X7_beginCatch_52 (N : Nat) (K : CS → Nat → Int32 → Int32 → Option (Unit × CS)) (σ : CS) (x1 : Nat) (x2 : Int32) (x3 : Int32) : Option (Unit × CS) :=
  (if 900 ≤ x3 then f_X7_beginCatch_80 N σ x1 x2 else (f_X1_skip N σ 124).bind fun p57 => (if p57.1 = 0 then f_X7_beginCatch_80 N p57.2 x1 x2 else (f_X7_caughtKind N p57.2 x1 x2).bind fun p62 => K p62.2 x1 x2 (x3 + 1)))
noncomputable def f_X7_beginCatch_52 (N : Nat) : Nat → CS → Nat → Int32 → Int32 → Option (Unit × CS)
  | 0 => fun _ _ _ _ => none
  | n+1 => b_X7_beginCatch_52 N (f_X7_beginCatch_52 N n)
noncomputable def f_X7_beginCatch (N : Nat) (σ : CS) (x1 : Nat) : Option (Unit × CS) :=
  (f_X0_newTarget N σ).bind fun p1 => if oK p1.2 x1 0 then (f_X0_newTarget N (CS.setO (CS.setO p1.2 x1 0 215) x1 8 1)).bind fun p6 => if oK p6.2 x1 0 then (f_X9_advance N (CS.setO p6.2 x1 10 p6.1)).bind fun p11 => (f_X1_open N p11.2 40).bind fun p15 => (f_X7_caughtKind N p15.2 x1 p1.1).bind fun p19 => f_X7_beginCatch_52 N N p19.2 x1 p1.1 0 else none else none
noncomputable def f_X7_beginFinally (N : Nat) (σ : CS) (x1 : Nat) : Option (Unit × CS) :=
  if oK σ x1 0 then (f_X9_advance N (CS.setO (CS.setO σ x1 0 216) x1 15 (σ.i 55))).bind fun p2 => (f_X1_open N p2.2 123).bind fun p6 => (f_X0_add N p6.2 58 0).bind fun p10 => if oK p10.2 x1 0 then (f_X0_aim N p10.2 (CS.o p10.2 x1 11)).bind fun p15 => some ((), CS.setI p15.2 36 1) else none else none
noncomputable def f_X7_endLock (N : Nat) (σ : CS) (x1 : Nat) : Option (Unit × CS) :=
  if oK σ x1 0 then (f_X7_leave N σ (CS.o σ x1 9) (CS.o σ x1 2)).bind fun p2 => if oK p2.2 x1 0 then (f_X0_aim N p2.2 (CS.o p2.2 x1 9)).bind fun p7 => (f_X6_pop N (CS.setI p7.2 38 ((p7.2.i 38) - 1))).bind fun p11 => some ((), p11.2) else none else none
noncomputable def f_X7_endSwitch_99 (N : Nat) (σ : CS) : Option (Unit × CS) :=
  (f_X6_pop N σ).bind fun p23 => some ((), p23.2)
noncomputable def f_X7_endSwitch_53 (N : Nat) (σ : CS) (x1 : Nat) : Option (Unit × CS) :=
  if oK σ x1 0 then (f_X0_aim N σ (CS.o σ x1 9)).bind fun p18 => (if (p18.2.i 36) = 0 then if oK p18.2 x1 0 then (if (CS.o p18.2 x1 11) < 0 then f_X7_endSwitch_99 N (CS.setI p18.2 36 1) else (f_X6_isGoneTo N p18.2 x1 0).bind fun p29 => (if p29.1 = 0 then f_X7_endSwitch_99 N (CS.setI p29.2 36 0) else f_X7_endSwitch_99 N (CS.setI p29.2 36 1))) else none else f_X7_endSwitch_99 N (CS.setI p18.2 36 1)) else none
noncomputable def f_X7_endSwitch (N : Nat) (σ : CS) (x1 : Nat) : Option (Unit × CS) :=
  if oK σ x1 0 then (f_X0_add N σ 30 (CS.o σ x1 9)).bind fun p2 => if oK p2.2 x1 0 then (f_X0_aim N p2.2 (CS.o p2.2 x1 10)).bind fun p7 => if oK p7.2 x1 0 then (if (CS.o p7.2 x1 11) < 0 then (f_X0_addCases N p7.2 (CS.o p7.2 x1 13) (CS.o p7.2 x1 9)).bind fun p13 => f_X7_endSwitch_53 N p13.2 x1 else (f_X0_addCases N p7.2 (CS.o p7.2 x1 13) (CS.o p7.2 x1 11)).bind fun p34 => f_X7_endSwitch_53 N p34.2 x1) else none else none else none
noncomputable def f_X7_endGuarded_66 (N : Nat) (σ : CS) (x1 : Nat) : Option (Unit × CS) :=
  if oK σ x1 0 then some ((), CS.setO σ x1 0 305) else none
noncomputable def f_X7_endGuarded_46 (N : Nat) (σ : CS) (x1 : Nat) : Option (Unit × CS) :=
  (f_X1_found N σ 215).bind fun p13 => (if p13.1 = 0 then (f_X1_found N p13.2 216).bind fun p19 => (if p19.1 = 0 then if oK p19.2 x1 0 then (if (CS.o p19.2 x1 8) = 0 then (f_X1_misplaced N p19.2).bind fun p26 => some ((), p26.2) else (f_X0_add N p19.2 58 0).bind fun p30 => if oK p30.2 x1 0 then (f_X0_aim N p30.2 (CS.o p30.2 x1 9)).bind fun p35 => if oK p35.2 x1 0 then if (CS.o p35.2 x1 6) = 0 ∨ (CS.o p35.2 x1 6) = 1 then (f_X6_pop N (CS.setI (CS.setI p35.2 36 (CS.o p35.2 x1 6)) 38 ((p35.2.i 38) - 1))).bind fun p41 => some ((), p41.2) else none else none else none) else none else f_X7_endGuarded_66 N p19.2 x1) else f_X7_endGuarded_66 N p13.2 x1)
noncomputable def f_X7_endGuarded (N : Nat) (σ : CS) (x1 : Nat) : Option (Unit × CS) :=
  if oK σ x1 0 then (f_X7_leave N σ (CS.o σ x1 9) (CS.o σ x1 2)).bind fun p2 => if oK p2.2 x1 0 then (f_X0_aim N p2.2 (CS.o p2.2 x1 10)).bind fun p7 => if oK p7.2 x1 0 then (if (CS.o p7.2 x1 6) = 0 then (if (p7.2.i 36) = 0 then f_X7_endGuarded_46 N (CS.setO p7.2 x1 6 0) x1 else f_X7_endGuarded_46 N (CS.setO p7.2 x1 6 1) x1) else f_X7_endGuarded_46 N (CS.setO p7.2 x1 6 1) x1) else none else none else none
noncomputable def b_X6_loseJumps_2 (N : Nat) (K : CS → Int32 → Int32 → Option (Unit × CS)) (σ : CS) (x2 : Int32) (x3 : Int32) : Option (Unit × CS) :=
  (if x2 ≤ x3 then some ((), σ) else K (CS.putA σ 52 (gPut (σ.a 52) 160 x3 0)) x2 (x3 + 1))
noncomputable def f_X6_loseJumps_2 (N : Nat) : Nat → CS → Int32 → Int32 → Option (Unit × CS)
  | 0 => fun _ _ _ => none
  | n+1 => b_X6_loseJumps_2 N (f_X6_loseJumps_2 N n)
noncomputable def f_X6_loseJumps (N : Nat) (σ : CS) (x1 : Int32) (x2 : Int32) : Option (Unit × CS) :=
  f_X6_loseJumps_2 N N σ x2 x1
noncomputable def f_X7_endFinally_66 (N : Nat) (σ : CS) : Option (Unit × CS) :=
  (f_X6_pop N (CS.setI σ 38 ((σ.i 38) - 1))).bind fun p12 => some ((), p12.2)
noncomputable def f_X7_endFinally_43 (N : Nat) (σ : CS) (x1 : Nat) : Option (Unit × CS) :=
  (if (σ.i 36) = 0 then f_X7_endFinally_66 N (CS.setI σ 36 0) else if oK σ x1 0 then (if (CS.o σ x1 6) = 0 then f_X7_endFinally_66 N (CS.setI σ 36 0) else f_X7_endFinally_66 N (CS.setI σ 36 1)) else none)
noncomputable def f_X7_endFinally (N : Nat) (σ : CS) (x1 : Nat) : Option (Unit × CS) :=
  (f_X0_add N σ 59 0).bind fun p1 => if oK p1.2 x1 0 then (f_X0_aim N p1.2 (CS.o p1.2 x1 9)).bind fun p6 => (if (p6.2.i 36) = 0 then if oK p6.2 x1 0 then (f_X6_loseJumps N p6.2 (CS.o p6.2 x1 14) (CS.o p6.2 x1 15)).bind fun p19 => f_X7_endFinally_43 N p19.2 x1 else none else f_X7_endFinally_43 N p6.2 x1) else none
noncomputable def f_X7_endList_72 (N : Nat) (σ : CS) (x1 : Nat) : Option (Unit × CS) :=
  (f_X1_close N σ 125).bind fun p4 => if oK p4.2 x1 0 then (if (CS.o (CS.setI p4.2 50 (CS.o p4.2 x1 3)) x1 0) = 212 then (f_X7_endLock N (CS.setI p4.2 50 (CS.o p4.2 x1 3)) x1).bind fun p10 => some ((), p10.2) else (if (CS.o (CS.setI p4.2 50 (CS.o p4.2 x1 3)) x1 0) = 213 then (f_X7_endGuarded N (CS.setI p4.2 50 (CS.o p4.2 x1 3)) x1).bind fun p15 => some ((), p15.2) else (if (CS.o (CS.setI p4.2 50 (CS.o p4.2 x1 3)) x1 0) = 214 then (f_X6_pop N (CS.setI p4.2 50 (CS.o p4.2 x1 3))).bind fun p20 => some ((), p20.2) else (if (CS.o (CS.setI p4.2 50 (CS.o p4.2 x1 3)) x1 0) = 215 then (f_X7_endGuarded N (CS.setI p4.2 50 (CS.o p4.2 x1 3)) x1).bind fun p25 => some ((), p25.2) else (if (CS.o (CS.setI p4.2 50 (CS.o p4.2 x1 3)) x1 0) = 216 then (f_X7_endFinally N (CS.setI p4.2 50 (CS.o p4.2 x1 3)) x1).bind fun p30 => some ((), p30.2) else (if (CS.o (CS.setI p4.2 50 (CS.o p4.2 x1 3)) x1 0) = 217 then (f_X6_pop N (CS.setI p4.2 50 (CS.o p4.2 x1 3))).bind fun p35 => some ((), p35.2) else (if (CS.o (CS.setI p4.2 50 (CS.o p4.2 x1 3)) x1 0) = 218 then (f_X7_endSwitch N (CS.setI p4.2 50 (CS.o p4.2 x1 3)) x1).bind fun p40 => some ((), p40.2) else (f_X6_pop N (CS.setI p4.2 50 (CS.o p4.2 x1 3))).bind fun p44 => some ((), p44.2)))))))) else none
noncomputable def f_X7_endList (N : Nat) (σ : CS) (x1 : Nat) : Option (Unit × CS) :=
  if oK σ x1 0 then (if (CS.o σ x1 0) = 300 then (f_X1_expect N σ 0).bind fun p53 => if (p53.2.i 36) = 0 ∨ (p53.2.i 36) = 1 then (f_X0_add N (CS.setI p53.2 27 (p53.2.i 36)) 50 0).bind fun p58 => (f_X6_pop N p58.2).bind fun p62 => some ((), p62.2) else none else (if (CS.o σ x1 0) = 302 then (if (σ.i 36) = 0 then f_X7_endList_72 N σ x1 else (f_X7_notReached N σ (σ.i 44)).bind fun p49 => f_X7_endList_72 N p49.2 x1) else f_X7_endList_72 N σ x1)) else none
noncomputable def f_X7_groupTurn_87 (N : Nat) (E1 : CS → Option (Unit × CS)) (E2 : CS → Option (Int32 × CS)) (σ : CS) (x1 : Nat) (x2 : Int32) : Option (Unit × CS) :=
  (f_X1_expect N σ 58).bind fun p21 => (f_X0_aim N p21.2 x2).bind fun p25 => if oK p25.2 x1 0 then some ((), CS.setI (CS.setO p25.2 x1 5 1) 36 1) else none
noncomputable def f_X7_groupTurn_59 (N : Nat) (E1 : CS → Option (Unit × CS)) (E2 : CS → Option (Int32 × CS)) (σ : CS) (x1 : Nat) (x2 : Int32) (x3 : Int32) : Option (Unit × CS) :=
  (f_X9_advance N σ).bind fun p15 => (if x3 = 0 then if oK p15.2 x1 0 then f_X7_groupTurn_87 N E1 E2 (CS.setO p15.2 x1 11 x2) x1 x2 else none else if oK p15.2 x1 0 then (f_X1_caseNumber N p15.2 (CS.o p15.2 x1 13) x2).bind fun p31 => f_X7_groupTurn_87 N E1 E2 p31.2 x1 x2 else none)
noncomputable def f_X7_groupTurn_20 (N : Nat) (E1 : CS → Option (Unit × CS)) (E2 : CS → Option (Int32 × CS)) (σ : CS) (x1 : Nat) : Option (Unit × CS) :=
  (f_X0_newTarget N σ).bind fun p6 => (f_X1_found N p6.2 219).bind fun p10 => (if p10.1 = 0 then if oK p10.2 x1 0 then (if (CS.o p10.2 x1 11) < 0 then f_X7_groupTurn_59 N E1 E2 p10.2 x1 p6.1 p10.1 else (f_X1_fail N p10.2 4 (p10.2.i 44)).bind fun p37 => f_X7_groupTurn_59 N E1 E2 p37.2 x1 p6.1 p10.1) else none else f_X7_groupTurn_59 N E1 E2 p10.2 x1 p6.1 p10.1)
noncomputable def f_X7_groupTurn (N : Nat) (E1 : CS → Option (Unit × CS)) (E2 : CS → Option (Int32 × CS)) (σ : CS) (x1 : Nat) : Option (Unit × CS) :=
  (f_X1_found N σ 219).bind fun p1 => (if p1.1 = 0 then (f_X1_found N p1.2 220).bind fun p41 => (if p41.1 = 0 then if oK p41.2 x1 0 then (if (CS.o p41.2 x1 5) = 0 then (f_X1_misplaced N p41.2).bind fun p48 => some ((), p48.2) else (f_X7_statement N E1 E2 p41.2 0).bind fun p52 => some ((), p52.2)) else none else f_X7_groupTurn_20 N E1 E2 p41.2 x1) else f_X7_groupTurn_20 N E1 E2 p1.2 x1)
noncomputable def b_X7_turns_2 (N : Nat) (E1 : CS → Option (Unit × CS)) (E2 : CS → Option (Int32 × CS)) (K : CS → Int32 → Int32 → Option (Unit × CS)) (σ : CS) (x1 : Int32) (x2 : Int32) : Option (Unit × CS) :=
  (if 10000 ≤ x2 then (if (σ.i 32) = 0 ∧ ¬ (σ.i 53) ≤ x1 then none else some ((), σ)) else (if (σ.i 32) = 0 then (if (σ.i 53) ≤ x1 then some ((), σ) else (f_X6_row N σ ((σ.i 53) - 1)).bind fun p4 => oCase p4.1 (some ((), p4.2)) (fun a9 => if oK p4.2 a9 0 then (f_X5_hasOneBody N p4.2 a9).bind fun p12 => (if p12.1 = 0 then if oK p12.2 a9 0 then (if (CS.o p12.2 a9 0) = 305 then (f_X1_found N p12.2 215).bind fun p47 => (if p47.1 = 0 then if oK p47.2 a9 0 then (if (CS.o p47.2 a9 0) = 305 then (f_X7_beginFinally N p47.2 a9).bind fun p82 => K p82.2 x1 (x2 + 1) else (f_X1_found N p47.2 125).bind fun p54 => (if p54.1 = 0 then (f_X1_found N p54.2 0).bind fun p63 => (if p63.1 = 0 then if oK p63.2 a9 0 then (if (CS.o p63.2 a9 0) = 218 then (f_X7_groupTurn N E1 E2 p63.2 a9).bind fun p74 => K p74.2 x1 (x2 + 1) else (f_X7_statement N E1 E2 p63.2 0).bind fun p70 => K p70.2 x1 (x2 + 1)) else none else (f_X7_endList N p63.2 a9).bind fun p78 => K p78.2 x1 (x2 + 1)) else (f_X7_endList N p54.2 a9).bind fun p59 => K p59.2 x1 (x2 + 1))) else none else (f_X7_beginCatch N p47.2 a9).bind fun p86 => K p86.2 x1 (x2 + 1)) else (f_X1_found N p12.2 125).bind fun p19 => (if p19.1 = 0 then (f_X1_found N p19.2 0).bind fun p28 => (if p28.1 = 0 then if oK p28.2 a9 0 then (if (CS.o p28.2 a9 0) = 218 then (f_X7_groupTurn N E1 E2 p28.2 a9).bind fun p39 => K p39.2 x1 (x2 + 1) else (f_X7_statement N E1 E2 p28.2 0).bind fun p35 => K p35.2 x1 (x2 + 1)) else none else (f_X7_endList N p28.2 a9).bind fun p43 => K p43.2 x1 (x2 + 1)) else (f_X7_endList N p19.2 a9).bind fun p24 => K p24.2 x1 (x2 + 1))) else none else (f_X7_bodyTurn N E1 E2 p12.2 a9).bind fun p90 => K p90.2 x1 (x2 + 1)) else none)) else some ((), σ)))
noncomputable def f_X7_turns_2 (N : Nat) (E1 : CS → Option (Unit × CS)) (E2 : CS → Option (Int32 × CS)) : Nat → CS → Int32 → Int32 → Option (Unit × CS)
  | 0 => fun _ _ _ => none
  | n+1 => b_X7_turns_2 N E1 E2 (f_X7_turns_2 N E1 E2 n)
noncomputable def f_X7_turns (N : Nat) (E1 : CS → Option (Unit × CS)) (E2 : CS → Option (Int32 × CS)) (σ : CS) (x1 : Int32) : Option (Unit × CS) :=
  f_X7_turns_2 N E1 E2 N σ x1 0
noncomputable def f_X7_armBlock (N : Nat) (E1 : CS → Option (Unit × CS)) (E2 : CS → Option (Int32 × CS)) (σ : CS) (x1 : Int32) : Option (Unit × CS) :=
  (f_X1_open N σ 123).bind fun p1 => (f_X6_push N p1.2 302 (p1.2.i 38) (p1.2.i 50)).bind fun p5 => oCase p5.1 (none) (fun a10 => if oK p5.2 a10 0 then (f_X7_turns N E1 E2 (CS.setI (CS.setI (CS.setO (CS.setO p5.2 a10 9 x1) a10 16 (p5.2.i 56)) 56 (σ.i 53)) 36 1) (σ.i 53)).bind fun p12 => if oK p12.2 a10 0 then if (σ.i 36) = 0 ∨ (σ.i 36) = 1 then some ((), CS.setI (CS.setI p12.2 56 (CS.o p12.2 a10 16)) 36 (σ.i 36)) else none else none else none)
noncomputable def f_X1_arm_153 (N : Nat) (E1 : CS → Option (Unit × CS)) (E2 : CS → Option (Int32 × CS)) (σ : CS) (x5 : Int32) : Option (Int32 × CS) :=
  some (x5, σ)
noncomputable def f_X1_arm_100 (N : Nat) (E1 : CS → Option (Unit × CS)) (E2 : CS → Option (Int32 × CS)) (σ : CS) (x3 : Int32) (x4 : Int32) (x5 : Int32) : Option (Int32 × CS) :=
  (f_X1_expect N σ 134).bind fun p19 => (f_X0_aim N p19.2 x4).bind fun p23 => (f_X1_found N p23.2 123).bind fun p27 => (if p27.1 = 0 then (f_X1_expression N E1 E2 p27.2).bind fun p32 => (f_X1_expect N p32.2 59).bind fun p36 => (f_X0_add N p36.2 30 x3).bind fun p40 => f_X1_arm_153 N E1 E2 p40.2 x5 else (f_X7_armBlock N E1 E2 p27.2 x3).bind fun p44 => f_X1_arm_153 N E1 E2 p44.2 x5)
noncomputable def b_X1_arm_70 (N : Nat) (E1 : CS → Option (Unit × CS)) (E2 : CS → Option (Int32 × CS)) (K : CS → Int32 → Int32 → Int32 → Int32 → Int32 → Option (Int32 × CS)) (σ : CS) (x1 : Int32) (x3 : Int32) (x4 : Int32) (x5 : Int32) (x6 : Int32) : Option (Int32 × CS) :=
  (if 900 ≤ x6 then f_X1_arm_100 N E1 E2 σ x3 x4 x5 else (f_X1_skip N σ 44).bind fun p48 => (if p48.1 = 0 then f_X1_arm_100 N E1 E2 p48.2 x3 x4 x5 else (f_X1_caseNumber N p48.2 x1 x4).bind fun p53 => K p53.2 x1 x3 x4 x5 (x6 + 1)))
noncomputable def f_X1_arm_70 (N : Nat) (E1 : CS → Option (Unit × CS)) (E2 : CS → Option (Int32 × CS)) : Nat → CS → Int32 → Int32 → Int32 → Int32 → Int32 → Option (Int32 × CS)
  | 0 => fun _ _ _ _ _ _ => none
  | n+1 => b_X1_arm_70 N E1 E2 (f_X1_arm_70 N E1 E2 n)
noncomputable def f_X1_arm_39 (N : Nat) (E1 : CS → Option (Unit × CS)) (E2 : CS → Option (Int32 × CS)) (σ : CS) (x3 : Int32) (x4 : Int32) : Option (Int32 × CS) :=
  (f_X9_advance N σ).bind fun p58 => f_X1_arm_100 N E1 E2 p58.2 x3 x4 x4
noncomputable def f_X1_arm (N : Nat) (E1 : CS → Option (Unit × CS)) (E2 : CS → Option (Int32 × CS)) (σ : CS) (x1 : Int32) (x2 : Int32) (x3 : Int32) : Option (Int32 × CS) :=
  (f_X0_newTarget N σ).bind fun p1 => (f_X1_found N p1.2 220).bind fun p5 => (if p5.1 = 0 then (f_X9_advance N p5.2).bind fun p10 => (f_X1_caseNumber N p10.2 x1 p1.1).bind fun p14 => f_X1_arm_70 N E1 E2 N p14.2 x1 x3 p1.1 x2 0 else (if x2 < 0 then f_X1_arm_39 N E1 E2 p5.2 x3 p1.1 else (f_X1_fail N p5.2 4 (p5.2.i 44)).bind fun p62 => f_X1_arm_39 N E1 E2 p62.2 x3 p1.1))
noncomputable def f_X1_choice_122 (N : Nat) (E1 : CS → Option (Unit × CS)) (E2 : CS → Option (Int32 × CS)) (σ : CS) (x1 : Int32) (x2 : Int32) (x3 : Int32) (x4 : Int32) : Option (Unit × CS) :=
  (f_X1_close N σ 125).bind fun p35 => (f_X0_aim N p35.2 x1).bind fun p39 => (f_X0_addCases N p39.2 x3 x4).bind fun p43 => (f_X0_aim N p43.2 x2).bind fun p47 => some ((), p47.2)
noncomputable def f_X1_choice_113 (N : Nat) (E1 : CS → Option (Unit × CS)) (E2 : CS → Option (Int32 × CS)) (σ : CS) (x1 : Int32) (x2 : Int32) (x3 : Int32) (x4 : Int32) : Option (Unit × CS) :=
  (if 0 ≤ x4 then f_X1_choice_122 N E1 E2 σ x1 x2 x3 x4 else (f_X1_misplaced N σ).bind fun p51 => f_X1_choice_122 N E1 E2 p51.2 x1 x2 x3 x4)
noncomputable def b_X1_choice_69 (N : Nat) (E1 : CS → Option (Unit × CS)) (E2 : CS → Option (Int32 × CS)) (K : CS → Int32 → Int32 → Int32 → Int32 → Int32 → Option (Unit × CS)) (σ : CS) (x1 : Int32) (x2 : Int32) (x3 : Int32) (x4 : Int32) (x5 : Int32) : Option (Unit × CS) :=
  (if 900 ≤ x5 then f_X1_choice_113 N E1 E2 σ x1 x2 x3 x4 else (f_X1_found N σ 219).bind fun p55 => (if p55.1 = 0 then (f_X1_found N p55.2 220).bind fun p64 => (if p64.1 = 0 then f_X1_choice_113 N E1 E2 p64.2 x1 x2 x3 x4 else (f_X1_arm N E1 E2 p64.2 x3 x4 x2).bind fun p69 => K p69.2 x1 x2 x3 p69.1 (x5 + 1)) else (f_X1_arm N E1 E2 p55.2 x3 x4 x2).bind fun p60 => K p60.2 x1 x2 x3 p60.1 (x5 + 1)))
noncomputable def f_X1_choice_69 (N : Nat) (E1 : CS → Option (Unit × CS)) (E2 : CS → Option (Int32 × CS)) : Nat → CS → Int32 → Int32 → Int32 → Int32 → Int32 → Option (Unit × CS)
  | 0 => fun _ _ _ _ _ _ => none
  | n+1 => b_X1_choice_69 N E1 E2 (f_X1_choice_69 N E1 E2 n)
noncomputable def f_X1_choice (N : Nat) (E1 : CS → Option (Unit × CS)) (E2 : CS → Option (Int32 × CS)) (σ : CS) : Option (Unit × CS) :=
  (f_X9_advance N σ).bind fun p1 => (f_X1_open N p1.2 40).bind fun p5 => (f_X1_expression N E1 E2 p5.2).bind fun p9 => (f_X1_close N p9.2 41).bind fun p13 => (f_X1_open N p13.2 123).bind fun p17 => (f_X0_newTarget N p17.2).bind fun p21 => (f_X0_newTarget N p21.2).bind fun p25 => (f_X0_add N p25.2 30 p21.1).bind fun p29 => f_X1_choice_69 N E1 E2 N p29.2 p21.1 p25.1 (p25.2.i 22) (-1) 0
noncomputable def f_X1_factor (N : Nat) (E1 : CS → Option (Unit × CS)) (E2 : CS → Option (Int32 × CS)) (σ : CS) : Option (Unit × CS) :=
  (if (σ.i 43) = 1 then (f_X0_add N σ 0 (σ.i 45)).bind fun p2 => (f_X9_advance N p2.2).bind fun p6 => some ((), p6.2) else (if (σ.i 43) = 2 then (f_X1_loadName N σ).bind fun p11 => some ((), p11.2) else (if (σ.i 43) = 40 then (f_X1_open N σ 40).bind fun p16 => (f_X1_expression N E1 E2 p16.2).bind fun p20 => (f_X1_close N p20.2 41).bind fun p24 => some ((), p24.2) else (if (σ.i 43) = 45 then (f_X1_negated N E1 E2 σ).bind fun p29 => some ((), p29.2) else (if (σ.i 43) = 218 then (f_X1_choice N E1 E2 σ).bind fun p34 => some ((), p34.2) else (f_X1_misplaced N σ).bind fun p38 => some ((), p38.2))))))
noncomputable def f_X1_comparing (N : Nat) (σ : CS) (x0 : Int32) : Option (Int32 × CS) :=
  (if x0 = 60 then some (12, σ) else (if x0 = 62 then some (14, σ) else (if x0 = 128 then some (13, σ) else (if x0 = 129 then some (15, σ) else (if x0 = 130 then some (16, σ) else (if x0 = 131 then some (17, σ) else some ((-1), σ)))))))
noncomputable def f_X1_comparison (N : Nat) (E1 : CS → Option (Unit × CS)) (E2 : CS → Option (Int32 × CS)) (σ : CS) : Option (Unit × CS) :=
  (f_X1_expression N E1 E2 σ).bind fun p1 => (f_X1_comparing N p1.2 (p1.2.i 43)).bind fun p5 => (if 0 ≤ p5.1 then (f_X9_advance N p5.2).bind fun p10 => (f_X1_expression N E1 E2 p10.2).bind fun p14 => (f_X0_add N p14.2 p5.1 0).bind fun p18 => some ((), p18.2) else (f_X1_misplaced N p5.2).bind fun p22 => some ((), p22.2))
noncomputable def f_X1_one_66 (N : Nat) (E1 : CS → Option (Unit × CS)) (E2 : CS → Option (Int32 × CS)) (σ : CS) : Option (Int32 × CS) :=
  (f_X0_add N (CS.setI σ 34 ((σ.i 34) - 1)) 5 0).bind fun p7 => some (0, p7.2)
noncomputable def f_X1_one (N : Nat) (E1 : CS → Option (Unit × CS)) (E2 : CS → Option (Int32 × CS)) (σ : CS) : Option (Int32 × CS) :=
  (if (σ.i 43) = 33 then (f_X1_open N σ 33).bind fun p2 => (if (p2.2.i 32) = 0 then (E2 p2.2).bind fun p11 => f_X1_one_66 N E1 E2 p11.2 else f_X1_one_66 N E1 E2 p2.2) else (if (σ.i 43) = 91 then (f_X1_open N σ 91).bind fun p16 => (f_X1_condition N E1 E2 p16.2).bind fun p20 => (f_X1_close N p20.2 93).bind fun p24 => some (0, p24.2) else (if (σ.i 43) = 222 then (f_X0_add N σ 0 1).bind fun p29 => (f_X9_advance N p29.2).bind fun p33 => some (1, p33.2) else (if (σ.i 43) = 223 then (f_X0_add N σ 0 0).bind fun p38 => (f_X9_advance N p38.2).bind fun p42 => some (0, p42.2) else (f_X1_comparison N E1 E2 σ).bind fun p46 => some (0, p46.2)))))
noncomputable def f_X2_init (N : Nat) (σ : CS) (x0 : Nat) : Option (Unit × CS) :=
  some ((), σ)
noncomputable def f_X3_push (N : Nat) (σ : CS) (x1 : Int32) : Option (Unit × CS) :=
  some ((), CS.setI (CS.putA σ 60 (gPut (σ.a 60) 600 (σ.i 65) x1)) 65 ((σ.i 65) + 1))
noncomputable def f_X3_pop (N : Nat) (σ : CS) : Option (Int32 × CS) :=
  some ((gAt (CS.a (CS.setI σ 65 ((σ.i 65) - 1)) 60) 600 ((σ.i 65) - 1)), CS.setI σ 65 ((σ.i 65) - 1))
noncomputable def f_X3_move (N : Nat) (σ : CS) (x1 : Int32) (x2 : Int32) : Option (Unit × CS) :=
  (if x1 = 0 then (f_X3_push N σ x2).bind fun p2 => some ((), p2.2) else (if x1 = 1 then (f_X3_push N σ (gAt (σ.a 59) 720 x2)).bind fun p8 => some ((), p8.2) else (if x1 = 2 then (f_X3_pop N σ).bind fun p13 => some ((), CS.putA p13.2 59 (gPut (p13.2.a 59) 720 x2 p13.1)) else (if x1 = 3 then some ((), CS.putA σ 59 (gPut (σ.a 59) 720 x2 ((gAt (σ.a 59) 720 x2) + 1))) else (if x1 = 4 then (f_X3_pop N σ).bind fun p20 => (f_X3_push N p20.2 (-p20.1)).bind fun p24 => some ((), p24.2) else (if x1 = 5 then (f_X3_pop N σ).bind fun p29 => (f_X3_push N p29.2 (1 - p29.1)).bind fun p33 => some ((), p33.2) else (f_X3_pop N σ).bind fun p37 => some ((), p37.2)))))))
noncomputable def f_X3_compares (N : Nat) (σ : CS) (x0 : Int32) (x1 : Int32) (x2 : Int32) : Option (Int32 × CS) :=
  (if x0 = 12 then (if x2 ≤ x1 then some (0, σ) else some (1, σ)) else (if x0 = 13 then (if x2 < x1 then some (0, σ) else some (1, σ)) else (if x0 = 14 then (if x1 ≤ x2 then some (0, σ) else some (1, σ)) else (if x0 = 15 then (if x1 < x2 then some (0, σ) else some (1, σ)) else (if x0 = 16 then (if x1 = x2 then some (1, σ) else some (0, σ)) else (if x1 = x2 then some (0, σ) else some (1, σ)))))))
noncomputable def f_X8_init (N : Nat) (σ : CS) (x0 : Nat) : Option (Unit × CS) :=
  if oK (CS.new σ 3) x0 4 then if (CS.hs σ) = x0 + 1 then if oK (CS.new (CS.setK (CS.new σ 3) x0 5) 3) x0 5 then if (CS.hs (CS.setK (CS.new σ 3) x0 5)) = x0 + 2 then some ((), CS.setK (CS.new (CS.setK (CS.new σ 3) x0 5) 3) x0 2) else none else none else none else none
noncomputable def f_X3_isHeld_46 (N : Nat) (σ : CS) : Option (Int32 × CS) :=
  some (0, σ)
noncomputable def b_X3_isHeld_2 (N : Nat) (K : CS → Nat → Int32 → Option (Int32 × CS)) (σ : CS) (x1 : Nat) (x2 : Int32) : Option (Int32 × CS) :=
  (if (σ.i 67) ≤ x2 then f_X3_isHeld_46 N σ else (if 24 ≤ x2 then f_X3_isHeld_46 N σ else if ib x2 24 then oCase (CS.r σ 61 ((x2 : Int32).toNatClampNeg)) (K σ x1 (x2 + 1)) (fun a5 => if oK σ a5 1 then oCase (CS.ot σ a5) ((if (none : Option Nat) = (some x1) then some (1, σ) else K σ x1 (x2 + 1))) (fun a8 => (if (some a8) = (some x1) then some (1, σ) else K σ x1 (x2 + 1))) else none) else none))
noncomputable def f_X3_isHeld_2 (N : Nat) : Nat → CS → Nat → Int32 → Option (Int32 × CS)
  | 0 => fun _ _ _ => none
  | n+1 => b_X3_isHeld_2 N (f_X3_isHeld_2 N n)
noncomputable def f_X3_isHeld (N : Nat) (σ : CS) (x1 : Nat) : Option (Int32 × CS) :=
  f_X3_isHeld_2 N N σ x1 0
noncomputable def b_X3_freeThrown_2 (N : Nat) (K : CS → Int32 → Option (Option Nat × CS)) (σ : CS) (x1 : Int32) : Option (Option Nat × CS) :=
  (if 24 ≤ x1 then (f_X8_init N (CS.new σ 4) (CS.hs σ)).bind fun p3 => some ((some (CS.hs σ)), p3.2) else if ib x1 24 then oCase (CS.r σ 62 ((x1 : Int32).toNatClampNeg)) ((f_X8_init N (CS.new σ 4) (CS.hs σ)).bind fun p11 => if ib x1 24 then if oK p11.2 (CS.hs σ) 2 then oCase (CS.r (CS.setR p11.2 62 ((x1 : Int32).toNatClampNeg) (some (CS.hs σ))) 62 ((x1 : Int32).toNatClampNeg)) (none) (fun a18 => (f_X3_isHeld N (CS.setR p11.2 62 ((x1 : Int32).toNatClampNeg) (some (CS.hs σ))) a18).bind fun p19 => (if p19.1 = 0 then oCase (CS.r p19.2 62 ((x1 : Int32).toNatClampNeg)) (some (none, p19.2)) (fun a25 => some ((some a25), p19.2)) else K p19.2 (x1 + 1))) else none else none) (fun a9 => oCase (CS.r σ 62 ((x1 : Int32).toNatClampNeg)) (none) (fun a27 => (f_X3_isHeld N σ a27).bind fun p28 => (if p28.1 = 0 then oCase (CS.r p28.2 62 ((x1 : Int32).toNatClampNeg)) (some (none, p28.2)) (fun a34 => some ((some a34), p28.2)) else K p28.2 (x1 + 1)))) else none)
noncomputable def f_X3_freeThrown_2 (N : Nat) : Nat → CS → Int32 → Option (Option Nat × CS)
  | 0 => fun _ _ => none
  | n+1 => b_X3_freeThrown_2 N (f_X3_freeThrown_2 N n)
noncomputable def f_X3_freeThrown (N : Nat) (σ : CS) : Option (Option Nat × CS) :=
  f_X3_freeThrown_2 N N σ 0
noncomputable def f_X3_go (N : Nat) (σ : CS) (x1 : Int32) (x2 : Int32) (x3 : Int32) : Option (Unit × CS) :=
  some ((), CS.setI (CS.setI (CS.setI σ 73 x1) 74 x2) 75 x3)
noncomputable def f_X3_raise (N : Nat) (σ : CS) (x1 : Int32) (x2 : Int32) : Option (Unit × CS) :=
  (f_X3_freeThrown N σ).bind fun p1 => oCase p1.1 (oCase (CS.w (CS.setW p1.2 none)) (none) (fun a8 => if oK p1.2 a8 2 then oCase (CS.w (CS.setO (CS.setW p1.2 none) a8 2 x1)) (none) (fun a11 => if oK p1.2 a11 2 then oCase (CS.w (CS.setO (CS.setO (CS.setW p1.2 none) a8 2 x1) a11 3 x2)) (none) (fun a14 => if oK p1.2 a14 2 then (f_X3_go N (CS.setO (CS.setO (CS.setO (CS.setW p1.2 none) a8 2 x1) a11 3 x2) a14 4 0) 4 0 0).bind fun p16 => some ((), p16.2) else none) else none) else none)) (fun a6 => oCase (CS.w (CS.setW p1.2 (some a6))) (none) (fun a21 => if oK p1.2 a21 2 then oCase (CS.w (CS.setO (CS.setW p1.2 (some a6)) a21 2 x1)) (none) (fun a24 => if oK p1.2 a24 2 then oCase (CS.w (CS.setO (CS.setO (CS.setW p1.2 (some a6)) a21 2 x1) a24 3 x2)) (none) (fun a27 => if oK p1.2 a27 2 then (f_X3_go N (CS.setO (CS.setO (CS.setO (CS.setW p1.2 (some a6)) a21 2 x1) a24 3 x2) a27 4 0) 4 0 0).bind fun p29 => some ((), p29.2) else none) else none) else none))
noncomputable def f_X3_divide (N : Nat) (σ : CS) (x1 : Int32) (x2 : Int32) (x3 : Int32) : Option (Unit × CS) :=
  (if x3 = 0 then (f_X3_raise N σ 2 0).bind fun p13 => some ((), p13.2) else (if x1 = 10 then if x3 = 0 then none else (f_X3_push N σ (x2 / x3)).bind fun p9 => some ((), p9.2) else if x3 = 0 then none else (f_X3_push N σ (x2 - x2 / x3 * x3)).bind fun p4 => some ((), p4.2)))
noncomputable def f_X3_combine (N : Nat) (σ : CS) (x1 : Int32) : Option (Unit × CS) :=
  (f_X3_pop N σ).bind fun p1 => (f_X3_pop N p1.2).bind fun p5 => (if x1 < 12 then (if x1 = 7 then (f_X3_push N p5.2 (p5.1 + p1.1)).bind fun p11 => some ((), p11.2) else (if x1 = 8 then (f_X3_push N p5.2 (p5.1 - p1.1)).bind fun p16 => some ((), p16.2) else (if x1 = 9 then (f_X3_push N p5.2 (p5.1 * p1.1)).bind fun p21 => some ((), p21.2) else (f_X3_divide N p5.2 x1 p5.1 p1.1).bind fun p25 => some ((), p25.2)))) else (f_X3_compares N p5.2 x1 p5.1 p1.1).bind fun p29 => (if p29.1 = 0 then (f_X3_push N p29.2 0).bind fun p34 => some ((), p34.2) else (f_X3_push N p29.2 1).bind fun p38 => some ((), p38.2)))
noncomputable def f_X3_goIf (N : Nat) (σ : CS) (x1 : Int32) (x2 : Int32) : Option (Unit × CS) :=
  (if x1 = 0 then some ((), σ) else some ((), CS.setI σ 66 (gAt (σ.a 17) 1024 x2)))
noncomputable def f_X3_keep_22 (N : Nat) (σ : CS) (x1 : Int32) (x2 : Int32) (x3 : Int32) : Option (Unit × CS) :=
  (if x3 = x1 then some ((), CS.setI σ 66 (gAt (σ.a 17) 1024 x2)) else (f_X3_pop N σ).bind fun p4 => some ((), p4.2))
noncomputable def f_X3_keep (N : Nat) (σ : CS) (x1 : Int32) (x2 : Int32) : Option (Unit × CS) :=
  (if (gAt (σ.a 60) 600 ((σ.i 65) - 1)) = 0 then f_X3_keep_22 N σ x1 x2 0 else f_X3_keep_22 N σ x1 x2 1)
noncomputable def f_X3_compareCase (N : Nat) (σ : CS) (x1 : Int32) : Option (Unit × CS) :=
  (f_X3_pop N σ).bind fun p1 => (if (gAt (p1.2.a 60) 600 ((p1.2.i 65) - 1)) = p1.1 then (f_X3_pop N p1.2).bind fun p7 => some ((), CS.setI p7.2 66 (gAt (p7.2.a 17) 1024 x1)) else some ((), p1.2))
noncomputable def b_X3_fillRow_29 (N : Nat) (K : CS → Int32 → Int32 → Option (Unit × CS)) (σ : CS) (x1 : Int32) (x3 : Int32) : Option (Unit × CS) :=
  (if x3 < 0 then some ((), σ) else (f_X3_pop N σ).bind fun p6 => K (CS.putA p6.2 59 (gPut (p6.2.a 59) 720 ((x1 + 2) + x3) p6.1)) x1 (x3 + (-1)))
noncomputable def f_X3_fillRow_29 (N : Nat) : Nat → CS → Int32 → Int32 → Option (Unit × CS)
  | 0 => fun _ _ _ => none
  | n+1 => b_X3_fillRow_29 N (f_X3_fillRow_29 N n)
noncomputable def f_X3_fillRow (N : Nat) (σ : CS) (x1 : Int32) : Option (Unit × CS) :=
  (f_X3_pop N σ).bind fun p1 => f_X3_fillRow_29 N N (CS.putA (CS.putA p1.2 59 (gPut (p1.2.a 59) 720 x1 0)) 59 (gPut (CS.a (CS.putA p1.2 59 (gPut (p1.2.a 59) 720 x1 0)) 59) 720 (x1 + 1) p1.1)) x1 (p1.1 - 1)
noncomputable def f_X3_steer_83 (N : Nat) (σ : CS) : Option (Unit × CS) :=
  some ((), σ)
noncomputable def f_X3_steer_102 (N : Nat) (σ : CS) : Option (Unit × CS) :=
  some ((), σ)
noncomputable def f_X3_steer_133 (N : Nat) (σ : CS) : Option (Unit × CS) :=
  some ((), σ)
noncomputable def f_X3_steer_174 (N : Nat) (σ : CS) : Option (Unit × CS) :=
  some ((), σ)
noncomputable def f_X3_steer (N : Nat) (σ : CS) (x1 : Int32) (x2 : Int32) : Option (Unit × CS) :=
  (if x1 = 30 then some ((), CS.setI σ 66 (gAt (σ.a 17) 1024 x2)) else (if x1 = 31 then (f_X3_pop N σ).bind fun p4 => (if p4.1 = 0 then (f_X3_goIf N p4.2 1 x2).bind fun p13 => f_X3_steer_83 N p13.2 else (f_X3_goIf N p4.2 0 x2).bind fun p9 => f_X3_steer_83 N p9.2) else (if x1 = 32 then (if x1 = 33 then (f_X3_keep N σ 1 x2).bind fun p23 => f_X3_steer_102 N p23.2 else (f_X3_keep N σ 0 x2).bind fun p19 => f_X3_steer_102 N p19.2) else (if x1 = 33 then (f_X3_keep N σ 1 x2).bind fun p28 => f_X3_steer_102 N p28.2 else (if x1 = 34 then (f_X3_compareCase N σ x2).bind fun p33 => some ((), p33.2) else (if x1 = 35 then (if (σ.i 14) = 0 then (f_X3_goIf N σ 1 x2).bind fun p43 => f_X3_steer_133 N p43.2 else (f_X3_goIf N σ 0 x2).bind fun p39 => f_X3_steer_133 N p39.2) else (if x1 = 36 then (f_X3_fillRow N σ x2).bind fun p48 => some ((), p48.2) else (if x1 = 37 then (if (gAt (σ.a 59) 720 (x2 + 1)) ≤ (gAt (σ.a 59) 720 x2) then (f_X3_push N σ 0).bind fun p56 => f_X3_steer_174 N p56.2 else (f_X3_push N σ 1).bind fun p60 => f_X3_steer_174 N p60.2) else (f_X3_push N σ (gAt (σ.a 59) 720 ((x2 + 2) + (gAt (σ.a 59) 720 x2)))).bind fun p66 => some ((), CS.putA p66.2 59 (gPut (p66.2.a 59) 720 x2 ((gAt (p66.2.a 59) 720 x2) + 1)))))))))))
noncomputable def f_X3_step (N : Nat) (σ : CS) : Option (Unit × CS) :=
  (if (σ.i 70) < 1000 then some ((), CS.setI σ 70 ((σ.i 70) + 1)) else some ((), CS.setI σ 72 3))
noncomputable def f_X3_note (N : Nat) (σ : CS) (x1 : Int32) (x2 : Int32) : Option (Unit × CS) :=
  (if 200 ≤ (σ.i 69) then some ((), σ) else some ((), CS.setI (CS.putA (CS.putA σ 64 (gPut (σ.a 64) 400 (2 * (σ.i 69)) x1)) 64 (gPut (CS.a (CS.putA σ 64 (gPut (σ.a 64) 400 (2 * (σ.i 69)) x1)) 64) 400 ((2 * (σ.i 69)) + 1) x2)) 69 ((σ.i 69) + 1)))
noncomputable def f_X3_enter_45 (N : Nat) (σ : CS) (x1 : Int32) (x2 : Int32) (x3 : Int32) (x4 : Nat) : Option (Unit × CS) :=
  if oK σ x4 1 then some ((), CS.setI (CS.setOt (CS.setO (CS.setO (CS.setO (CS.setO σ x4 0 x1) x4 1 x2) x4 2 (σ.i 65)) x4 3 (σ.i 68)) x4 none) 67 (x3 + 1)) else none
noncomputable def f_X3_enter (N : Nat) (σ : CS) (x1 : Int32) (x2 : Int32) : Option (Unit × CS) :=
  if ib (if (23 : Int32) < (σ.i 67) then (23 : Int32) else (σ.i 67)) 24 then oCase (CS.r σ 61 (((if (23 : Int32) < (σ.i 67) then (23 : Int32) else (σ.i 67)) : Int32).toNatClampNeg)) ((f_X2_init N (CS.new σ 1) (CS.hs σ)).bind fun p5 => if ib (if (23 : Int32) < (σ.i 67) then (23 : Int32) else (σ.i 67)) 24 then if oK p5.2 (CS.hs σ) 1 then f_X3_enter_45 N (CS.setR p5.2 61 (((if (23 : Int32) < (σ.i 67) then (23 : Int32) else (σ.i 67)) : Int32).toNatClampNeg) (some (CS.hs σ))) x1 x2 (if (23 : Int32) < (σ.i 67) then (23 : Int32) else (σ.i 67)) (CS.hs σ) else none else none) (fun a3 => f_X3_enter_45 N σ x1 x2 (if (23 : Int32) < (σ.i 67) then (23 : Int32) else (σ.i 67)) a3) else none
noncomputable def f_X3_openOne (N : Nat) (σ : CS) (x1 : Int32) : Option (Unit × CS) :=
  (if (gAt (σ.a 11) 8 x1) < 0 then (if (gAt (σ.a 10) 8 x1) = 0 then (f_X3_note N σ 1 x1).bind fun p5 => some ((), CS.setI (CS.putA p5.2 63 (gPut (p5.2.a 63) 320 (p5.2.i 68) x1)) 68 ((p5.2.i 68) + 1)) else some ((), σ)) else (f_X3_raise N σ (gAt (σ.a 11) 8 x1) x1).bind fun p10 => some ((), p10.2))
noncomputable def f_X3_act (N : Nat) (σ : CS) (x1 : Int32) (x2 : Int32) : Option (Unit × CS) :=
  (if x1 = 51 then (f_X3_step N σ).bind fun p2 => some ((), p2.2) else (if x1 = 52 then (f_X3_pop N σ).bind fun p7 => (f_X3_note N p7.2 0 p7.1).bind fun p11 => some ((), p11.2) else (if x1 = 53 then (f_X3_enter N σ 0 x2).bind fun p16 => (f_X3_note N (CS.setI p16.2 71 ((p16.2.i 71) + 1)) 3 x2).bind fun p20 => some ((), p20.2) else (if x1 = 54 then (f_X3_enter N σ 1 x2).bind fun p25 => some ((), p25.2) else (if x1 = 55 then (f_X3_openOne N σ x2).bind fun p30 => some ((), p30.2) else some ((), CS.setI σ 72 0))))))
noncomputable def f_X3_frame_30 (N : Nat) (σ : CS) : Option (Option Nat × CS) :=
  some (none, σ)
noncomputable def f_X3_frame (N : Nat) (σ : CS) (x1 : Int32) : Option (Option Nat × CS) :=
  (if x1 < 0 then f_X3_frame_30 N σ else (if (σ.i 67) ≤ x1 then f_X3_frame_30 N σ else (if 24 ≤ x1 then f_X3_frame_30 N σ else if ib x1 24 then oCase (CS.r σ 61 ((x1 : Int32).toNatClampNeg)) (some (none, σ)) (fun a6 => some ((some a6), σ)) else none)))
noncomputable def f_X3_throwAgain (N : Nat) (σ : CS) (x1 : Option Nat) : Option (Unit × CS) :=
  oCase x1 (some ((), σ)) (fun a2 => if oK σ a2 1 then oCase (CS.ot σ a2) ((f_X3_go N (CS.setW σ none) 4 0 0).bind fun p6 => some ((), p6.2)) (fun a5 => (f_X3_go N (CS.setW σ (some a5)) 4 0 0).bind fun p10 => some ((), p10.2)) else none)
noncomputable def f_X3_resume (N : Nat) (σ : CS) (x1 : Option Nat) : Option (Unit × CS) :=
  oCase x1 (some ((), σ)) (fun a2 => if oK σ a2 1 then oCase (CS.ot (CS.setI σ 67 ((σ.i 67) - 1)) a2) ((f_X3_go N (CS.setW (CS.setI σ 67 ((σ.i 67) - 1)) none) (CS.o (CS.setW (CS.setI σ 67 ((σ.i 67) - 1)) none) a2 5) (CS.o (CS.setW (CS.setI σ 67 ((σ.i 67) - 1)) none) a2 6) (CS.o (CS.setW (CS.setI σ 67 ((σ.i 67) - 1)) none) a2 7)).bind fun p6 => some ((), p6.2)) (fun a5 => (f_X3_go N (CS.setW (CS.setI σ 67 ((σ.i 67) - 1)) (some a5)) (CS.o (CS.setW (CS.setI σ 67 ((σ.i 67) - 1)) (some a5)) a2 5) (CS.o (CS.setW (CS.setI σ 67 ((σ.i 67) - 1)) (some a5)) a2 6) (CS.o (CS.setW (CS.setI σ 67 ((σ.i 67) - 1)) (some a5)) a2 7)).bind fun p10 => some ((), p10.2)) else none)
noncomputable def f_X3_handle (N : Nat) (σ : CS) (x1 : Int32) (x2 : Int32) (x3 : Option Nat) : Option (Unit × CS) :=
  oCase x3 (some ((), σ)) (fun a2 => if oK σ a2 1 then oCase (CS.ot σ a2) (some ((), σ)) (fun a5 => (if x1 = 58 then (f_X3_throwAgain N σ (some a2)).bind fun p22 => some ((), p22.2) else (if x1 = 57 then oCase (CS.ot σ a2) (none) (fun a20 => if oK σ a20 2 then some ((), CS.putA σ 59 (gPut (σ.a 59) 720 x2 (CS.o σ a20 3))) else none) else oCase (CS.ot σ a2) (none) (fun a9 => if oK σ a9 2 then (f_X10_isUnder N σ (CS.o σ a9 2) (x2 - x2 / 16 * 16)).bind fun p11 => (f_X3_goIf N p11.2 p11.1 (x2 / 16)).bind fun p15 => some ((), p15.2) else none)))) else none)
noncomputable def f_X3_turn (N : Nat) (σ : CS) (x1 : Int32) (x2 : Int32) : Option (Unit × CS) :=
  (if x1 = 59 then (f_X3_frame N σ ((σ.i 67) - 1)).bind fun p2 => oCase p2.1 ((f_X3_resume N p2.2 none).bind fun p8 => some ((), p8.2)) (fun a7 => (f_X3_resume N p2.2 (some a7)).bind fun p12 => some ((), p12.2)) else (if x1 = 60 then (f_X3_go N σ 1 0 x2).bind fun p17 => some ((), p17.2) else (if x1 = 61 then (f_X3_pop N σ).bind fun p22 => (f_X3_go N p22.2 2 p22.1 x2).bind fun p26 => some ((), p26.2) else (if x1 = 62 then (f_X3_pop N σ).bind fun p31 => (f_X3_go N p31.2 3 p31.1 0).bind fun p35 => some ((), p35.2) else (if x1 = 63 then (f_X3_pop N σ).bind fun p40 => (f_X3_raise N p40.2 x2 p40.1).bind fun p44 => some ((), p44.2) else (if x1 = 64 then (f_X3_frame N σ x2).bind fun p49 => oCase p49.1 ((f_X3_throwAgain N p49.2 none).bind fun p55 => some ((), p55.2)) (fun a54 => (f_X3_throwAgain N p49.2 (some a54)).bind fun p59 => some ((), p59.2)) else (f_X3_frame N σ ((σ.i 67) - 1)).bind fun p63 => oCase p63.1 ((f_X3_handle N p63.2 x1 x2 none).bind fun p69 => some ((), p69.2)) (fun a68 => (f_X3_handle N p63.2 x1 x2 (some a68)).bind fun p73 => some ((), p73.2))))))))
noncomputable def f_X3_instruction (N : Nat) (σ : CS) : Option (Unit × CS) :=
  (if 7 ≤ (gAt (σ.a 15) 1200 (σ.i 66)) then (if 30 ≤ (gAt (σ.a 15) 1200 (σ.i 66)) then (if 50 ≤ (gAt (σ.a 15) 1200 (σ.i 66)) then (if 56 ≤ (gAt (σ.a 15) 1200 (σ.i 66)) then (f_X3_turn N (CS.setI σ 66 ((σ.i 66) + 1)) (gAt (σ.a 15) 1200 (σ.i 66)) (gAt (σ.a 16) 1200 (σ.i 66))).bind fun p7 => some ((), p7.2) else (f_X3_act N (CS.setI σ 66 ((σ.i 66) + 1)) (gAt (σ.a 15) 1200 (σ.i 66)) (gAt (σ.a 16) 1200 (σ.i 66))).bind fun p11 => some ((), p11.2)) else (f_X3_steer N (CS.setI σ 66 ((σ.i 66) + 1)) (gAt (σ.a 15) 1200 (σ.i 66)) (gAt (σ.a 16) 1200 (σ.i 66))).bind fun p15 => some ((), p15.2)) else (f_X3_combine N (CS.setI σ 66 ((σ.i 66) + 1)) (gAt (σ.a 15) 1200 (σ.i 66))).bind fun p19 => some ((), p19.2)) else (f_X3_move N (CS.setI σ 66 ((σ.i 66) + 1)) (gAt (σ.a 15) 1200 (σ.i 66)) (gAt (σ.a 16) 1200 (σ.i 66))).bind fun p23 => some ((), p23.2))
noncomputable def f_X3_arrive_48 (N : Nat) (σ : CS) : Option (Unit × CS) :=
  some ((), CS.setI (CS.setI σ 66 (gAt (σ.a 17) 1024 ((σ.i 75) / 32))) 73 0)
noncomputable def f_X3_arrive (N : Nat) (σ : CS) : Option (Unit × CS) :=
  (if (σ.i 73) = 3 then some ((), CS.setI σ 72 1) else (if (σ.i 73) = 4 then some ((), CS.setI σ 72 2) else (if (σ.i 73) = 2 then (f_X3_push N σ (σ.i 74)).bind fun p5 => f_X3_arrive_48 N p5.2 else f_X3_arrive_48 N σ)))
noncomputable def f_X8_suppress (N : Nat) (σ : CS) (x0 : Nat) (x1 : Int32) (x2 : Int32) : Option (Unit × CS) :=
  if oK σ x0 2 then (if 8 ≤ (CS.o σ x0 4) then some ((), σ) else if oK σ (x0 + 1) 3 then if oK σ (x0 + 2) 3 then some ((), CS.setO (CS.putOA (CS.putOA σ (x0 + 1) (gPut (CS.oa σ (x0 + 1)) 8 (CS.o σ x0 4) x1)) (x0 + 2) (gPut (CS.oa (CS.putOA σ (x0 + 1) (gPut (CS.oa σ (x0 + 1)) 8 (CS.o σ x0 4) x1)) (x0 + 2)) 8 (CS.o (CS.putOA σ (x0 + 1) (gPut (CS.oa σ (x0 + 1)) 8 (CS.o σ x0 4) x1)) x0 4) x2)) x0 4 ((CS.o (CS.putOA (CS.putOA σ (x0 + 1) (gPut (CS.oa σ (x0 + 1)) 8 (CS.o σ x0 4) x1)) (x0 + 2) (gPut (CS.oa (CS.putOA σ (x0 + 1) (gPut (CS.oa σ (x0 + 1)) 8 (CS.o σ x0 4) x1)) (x0 + 2)) 8 (CS.o (CS.putOA σ (x0 + 1) (gPut (CS.oa σ (x0 + 1)) 8 (CS.o σ x0 4) x1)) x0 4) x2)) x0 4) + 1)) else none else none) else none
noncomputable def f_X3_closeOne_50 (N : Nat) (σ : CS) (x1 : Int32) (x2 : Int32) : Option (Unit × CS) :=
  (f_X3_raise N σ x2 x1).bind fun p8 => some ((), p8.2)
noncomputable def f_X3_closeOne (N : Nat) (σ : CS) (x1 : Int32) : Option (Unit × CS) :=
  (f_X3_note N σ 2 x1).bind fun p2 => (if 0 ≤ (gAt (σ.a 12) 8 x1) then (if (p2.2.i 73) = 4 then oCase (CS.w p2.2) (f_X3_closeOne_50 N p2.2 x1 (gAt (σ.a 12) 8 x1)) (fun a13 => oCase (CS.w p2.2) (none) (fun a15 => if oK p2.2 a15 2 then (f_X8_suppress N p2.2 a15 (gAt (σ.a 12) 8 x1) x1).bind fun p18 => some ((), p18.2) else none)) else f_X3_closeOne_50 N p2.2 x1 (gAt (σ.a 12) 8 x1)) else some ((), p2.2))
noncomputable def f_X3_begin (N : Nat) (σ : CS) (x1 : Nat) (x2 : Int32) : Option (Unit × CS) :=
  if oK σ x1 1 then some ((), CS.setI (CS.setI (CS.setI σ 65 (CS.o σ x1 2)) 66 (gAt (CS.a (CS.setI σ 65 (CS.o σ x1 2)) 17) 1024 x2)) 73 0) else none
noncomputable def b_X3_leaveBody_7 (N : Nat) (K : CS → Nat → Int32 → Option (Unit × CS)) (σ : CS) (x1 : Nat) (x2 : Int32) : Option (Unit × CS) :=
  if oK σ x1 1 then (if x2 < (CS.o σ x1 3) then (if (σ.i 73) = 4 then oCase (CS.w (CS.setO (CS.setI σ 68 (CS.o σ x1 3)) x1 0 2)) ((f_X3_begin N (CS.setOt (CS.setO (CS.setI σ 68 (CS.o σ x1 3)) x1 0 2) x1 none) x1 (CS.o (CS.setOt (CS.setO (CS.setI σ 68 (CS.o σ x1 3)) x1 0 2) x1 none) x1 1)).bind fun p6 => some ((), p6.2)) (fun a5 => (f_X3_begin N (CS.setOt (CS.setO (CS.setI σ 68 (CS.o σ x1 3)) x1 0 2) x1 (some a5)) x1 (CS.o (CS.setOt (CS.setO (CS.setI σ 68 (CS.o σ x1 3)) x1 0 2) x1 (some a5)) x1 1)).bind fun p10 => some ((), p10.2)) else some ((), CS.setO (CS.setI σ 68 (CS.o σ x1 3)) x1 0 2)) else (f_X3_closeOne N σ (gAt (σ.a 63) 320 x2)).bind fun p15 => K p15.2 x1 (x2 + (-1))) else none
noncomputable def f_X3_leaveBody_7 (N : Nat) : Nat → CS → Nat → Int32 → Option (Unit × CS)
  | 0 => fun _ _ _ => none
  | n+1 => b_X3_leaveBody_7 N (f_X3_leaveBody_7 N n)
noncomputable def f_X3_leaveBody (N : Nat) (σ : CS) (x1 : Nat) : Option (Unit × CS) :=
  f_X3_leaveBody_7 N N σ x1 ((σ.i 68) - 1)
noncomputable def f_X3_enterFinally (N : Nat) (σ : CS) (x1 : Nat) : Option (Unit × CS) :=
  if oK σ x1 1 then oCase (CS.w (CS.setO σ x1 0 3)) ((f_X3_begin N (CS.setO (CS.setO (CS.setO (CS.setOt (CS.setO σ x1 0 3) x1 none) x1 5 (σ.i 73)) x1 6 (σ.i 74)) x1 7 (σ.i 75)) x1 ((CS.o (CS.setO (CS.setO (CS.setO (CS.setOt (CS.setO σ x1 0 3) x1 none) x1 5 (σ.i 73)) x1 6 (σ.i 74)) x1 7 (σ.i 75)) x1 1) + 1)).bind fun p4 => some ((), p4.2)) (fun a3 => (f_X3_begin N (CS.setO (CS.setO (CS.setO (CS.setOt (CS.setO σ x1 0 3) x1 (some a3)) x1 5 (σ.i 73)) x1 6 (σ.i 74)) x1 7 (σ.i 75)) x1 ((CS.o (CS.setO (CS.setO (CS.setO (CS.setOt (CS.setO σ x1 0 3) x1 (some a3)) x1 5 (σ.i 73)) x1 6 (σ.i 74)) x1 7 (σ.i 75)) x1 1) + 1)).bind fun p8 => some ((), p8.2)) else none
noncomputable def f_X3_leaveOne_29 (N : Nat) (σ : CS) : Option (Unit × CS) :=
  (f_X3_arrive N σ).bind fun p7 => some ((), p7.2)
noncomputable def f_X3_leaveOne_113 (N : Nat) (σ : CS) : Option (Unit × CS) :=
  some ((), CS.setI σ 67 ((σ.i 67) - 1))
noncomputable def f_X3_leaveOne_87 (N : Nat) (σ : CS) (x1 : Nat) : Option (Unit × CS) :=
  if oK σ x1 1 then (if (CS.o σ x1 0) = 0 then (f_X3_note N (CS.setI σ 71 ((σ.i 71) - 1)) 4 (CS.o (CS.setI σ 71 ((σ.i 71) - 1)) x1 1)).bind fun p17 => f_X3_leaveOne_113 N p17.2 else f_X3_leaveOne_113 N σ) else none
noncomputable def f_X3_leaveOne (N : Nat) (σ : CS) : Option (Unit × CS) :=
  (f_X3_frame N σ ((σ.i 67) - 1)).bind fun p1 => oCase p1.1 (f_X3_leaveOne_29 N p1.2) (fun a6 => (if ((p1.2.i 75) - (p1.2.i 75) / 32 * 32) < (p1.2.i 67) then if oK p1.2 a6 1 then (if (CS.o p1.2 a6 0) = 1 then (f_X3_leaveBody N p1.2 a6).bind fun p27 => some ((), p27.2) else (if (CS.o p1.2 a6 0) = 2 then (if (gAt (p1.2.a 17) 1024 ((CS.o p1.2 a6 1) + 1)) < 0 then f_X3_leaveOne_87 N p1.2 a6 else (f_X3_enterFinally N p1.2 a6).bind fun p23 => some ((), p23.2)) else f_X3_leaveOne_87 N p1.2 a6)) else none else f_X3_leaveOne_29 N p1.2))
noncomputable def f_X3_perform_148 (N : Nat) (σ : CS) : Option (Int32 × CS) :=
  some ((σ.i 72), σ)
noncomputable def b_X3_perform_110 (N : Nat) (K : CS → Int32 → Option (Int32 × CS)) (σ : CS) (x3 : Int32) : Option (Int32 × CS) :=
  (if 4000000 ≤ x3 then f_X3_perform_148 N σ else (if (σ.i 72) = (-1) then (if (σ.i 73) = 0 then (f_X3_instruction N σ).bind fun p9 => K p9.2 (x3 + 1) else (f_X3_leaveOne N σ).bind fun p5 => K p5.2 (x3 + 1)) else f_X3_perform_148 N σ))
noncomputable def f_X3_perform_110 (N : Nat) : Nat → CS → Int32 → Option (Int32 × CS)
  | 0 => fun _ _ => none
  | n+1 => b_X3_perform_110 N (f_X3_perform_110 N n)
noncomputable def f_X3_perform_35 (N : Nat) (σ : CS) (x1 : Int32) (x2 : Int32) : Option (Int32 × CS) :=
  f_X3_perform_110 N N (CS.setI (CS.setW (CS.setI (CS.setI (CS.setI (CS.setI (CS.setI (CS.setI (CS.setI (CS.setI (CS.setI (CS.putA (CS.putA σ 59 (gPut (σ.a 59) 720 0 x1)) 59 (gPut (CS.a (CS.putA σ 59 (gPut (σ.a 59) 720 0 x1)) 59) 720 1 x2)) 65 0) 66 0) 67 0) 68 0) 69 0) 70 0) 71 0) 73 0) 74 0) none) 72 (-1)) 0
noncomputable def b_X3_perform_2 (N : Nat) (K : CS → Int32 → Int32 → Int32 → Option (Int32 × CS)) (σ : CS) (x1 : Int32) (x2 : Int32) (x3 : Int32) : Option (Int32 × CS) :=
  (if (σ.i 23) ≤ x3 then f_X3_perform_35 N σ x1 x2 else (if 720 ≤ x3 then f_X3_perform_35 N σ x1 x2 else if ib x3 720 then K (CS.setA σ 59 ((x3 : Int32).toNatClampNeg) 0) x1 x2 (x3 + 1) else none))
noncomputable def f_X3_perform_2 (N : Nat) : Nat → CS → Int32 → Int32 → Int32 → Option (Int32 × CS)
  | 0 => fun _ _ _ _ => none
  | n+1 => b_X3_perform_2 N (f_X3_perform_2 N n)
noncomputable def f_X3_perform (N : Nat) (σ : CS) (x1 : Int32) (x2 : Int32) : Option (Int32 × CS) :=
  f_X3_perform_2 N N σ x1 x2 0
noncomputable def f_X3_lastThrown (N : Nat) (σ : CS) : Option (Option Nat × CS) :=
  (if (σ.i 72) = 2 then oCase (CS.w σ) (some (none, σ)) (fun a3 => some ((some a3), σ)) else some (none, σ))
noncomputable def f_X3_answer (N : Nat) (σ : CS) (x1 : Int32) : Option (Int32 × CS) :=
  (f_X3_lastThrown N σ).bind fun p1 => oCase p1.1 ((if x1 = 0 then some ((p1.2.i 70), p1.2) else (if x1 = 1 then some ((p1.2.i 69), p1.2) else (if x1 = 2 then (if (p1.2.i 72) = 1 then some ((p1.2.i 74), p1.2) else some (0, p1.2)) else (if x1 = 3 then some ((-1), p1.2) else (if x1 = 4 then some (0, p1.2) else (if x1 = 5 then some (0, p1.2) else some ((p1.2.i 71), p1.2)))))))) (fun a6 => (if x1 = 0 then some ((p1.2.i 70), p1.2) else (if x1 = 1 then some ((p1.2.i 69), p1.2) else (if x1 = 2 then (if (p1.2.i 72) = 1 then some ((p1.2.i 74), p1.2) else some (0, p1.2)) else (if x1 = 3 then if oK p1.2 a6 2 then some ((CS.o p1.2 a6 2), p1.2) else none else (if x1 = 4 then if oK p1.2 a6 2 then some ((CS.o p1.2 a6 3), p1.2) else none else (if x1 = 5 then if oK p1.2 a6 2 then some ((CS.o p1.2 a6 4), p1.2) else none else some ((p1.2.i 71), p1.2))))))))
noncomputable def f_X6_clear (N : Nat) (σ : CS) : Option (Unit × CS) :=
  some ((), CS.setI (CS.setI (CS.setI (CS.setI σ 53 0) 54 0) 55 0) 56 (-1))
noncomputable def f_X9_start (N : Nat) (σ : CS) (x1 : Int32) : Option (Unit × CS) :=
  (f_X9_advance N (CS.setI (CS.setI σ 41 x1) 42 0)).bind fun p1 => some ((), p1.2)
noncomputable def f_X7_translate_139 (N : Nat) (E1 : CS → Option (Unit × CS)) (E2 : CS → Option (Int32 × CS)) (σ : CS) : Option (Int32 × CS) :=
  some ((σ.i 32), σ)
noncomputable def f_X7_translate (N : Nat) (E1 : CS → Option (Unit × CS)) (E2 : CS → Option (Int32 × CS)) (σ : CS) (x1 : Int32) : Option (Int32 × CS) :=
  (f_X0_clear N σ).bind fun p1 => (f_X0_newCells N (CS.setI p1.2 50 0) 1).bind fun p5 => (f_X4_add N p5.2 97 p5.1 (-1)).bind fun p9 => (f_X0_newCells N p9.2 1).bind fun p13 => (f_X4_add N p13.2 98 p13.1 (-1)).bind fun p17 => (f_X6_clear N p17.2).bind fun p21 => (f_X9_start N (CS.setI (CS.setI (CS.setI (CS.setI (CS.setI (CS.setI p21.2 32 0) 33 0) 34 0) 36 1) 37 (-1)) 38 0) x1).bind fun p25 => (f_X6_push N p25.2 300 0 (p25.2.i 50)).bind fun p29 => oCase p29.1 ((f_X7_turns N E1 E2 p29.2 0).bind fun p35 => (if (p35.2.i 37) < 0 then f_X7_translate_139 N E1 E2 p35.2 else (f_X1_fail N p35.2 7 (p35.2.i 37)).bind fun p40 => f_X7_translate_139 N E1 E2 p40.2)) (fun a34 => (f_X7_turns N E1 E2 p29.2 0).bind fun p44 => (if (p44.2.i 37) < 0 then f_X7_translate_139 N E1 E2 p44.2 else (f_X1_fail N p44.2 7 (p44.2.i 37)).bind fun p49 => f_X7_translate_139 N E1 E2 p49.2))
noncomputable def f_X10_isFull (N : Nat) (σ : CS) : Option (Int32 × CS) :=
  (if (σ.i 13) < 12 then some (0, σ) else some (1, σ))
noncomputable def f_X10_addKind (N : Nat) (σ : CS) (x1 : Int32) : Option (Int32 × CS) :=
  some ((((σ.i 13) + 1) - 1), CS.setI (CS.putA σ 9 (gPut (σ.a 9) 12 (σ.i 13) x1)) 13 ((σ.i 13) + 1))
noncomputable def f_X10_tellResource (N : Nat) (σ : CS) (x1 : Int32) (x2 : Int32) (x3 : Int32) (x4 : Int32) : Option (Unit × CS) :=
  some ((), CS.putA (CS.putA (CS.putA σ 10 (gPut (σ.a 10) 8 x1 x2)) 11 (gPut (CS.a (CS.putA σ 10 (gPut (σ.a 10) 8 x1 x2)) 11) 8 x1 x3)) 12 (gPut (CS.a (CS.putA (CS.putA σ 10 (gPut (σ.a 10) 8 x1 x2)) 11 (gPut (CS.a (CS.putA σ 10 (gPut (σ.a 10) 8 x1 x2)) 11) 8 x1 x3)) 12) 8 x1 x4))
noncomputable def b_X11_addBytes_3 (N : Nat) (K : CS → Int32 → Int32 → Option (Unit × CS)) (σ : CS) (x1 : Int32) (x2 : Int32) : Option (Unit × CS) :=
  (if x2 < 0 then some ((), σ) else K (CS.setI (CS.putA σ 0 (gPut (σ.a 0) 900 (σ.i 5) (((x1 : Int32).toUInt32 >>> ((x2 : Int32).toUInt32 &&& Int32.toUInt32 31)).toInt32 &&& 255))) 5 ((σ.i 5) + 1)) x1 (x2 + (-8)))
noncomputable def f_X11_addBytes_3 (N : Nat) : Nat → CS → Int32 → Int32 → Option (Unit × CS)
  | 0 => fun _ _ _ => none
  | n+1 => b_X11_addBytes_3 N (f_X11_addBytes_3 N n)
noncomputable def f_X11_addBytes (N : Nat) (σ : CS) (x1 : Int32) : Option (Unit × CS) :=
  f_X11_addBytes_3 N N σ x1 24
noncomputable def f_X11_feed (N : Nat) (σ : CS) (x1 : Int32) (x2 : Int32) (x3 : Int32) (x4 : Int32) (x5 : Int32) : Option (Int32 × CS) :=
  (if ((σ.i 5) + 20) ≤ 900 then (f_X11_addBytes N σ x1).bind fun p2 => (f_X11_addBytes N p2.2 x2).bind fun p6 => (f_X11_addBytes N p6.2 x3).bind fun p10 => (f_X11_addBytes N p10.2 x4).bind fun p14 => (f_X11_addBytes N p14.2 x5).bind fun p18 => some ((p18.2.i 5), p18.2) else some ((-2), σ))
noncomputable def f_X11_cut_12 (N : Nat) (σ : CS) : Option (Int32 × CS) :=
  some ((-1), σ)
noncomputable def f_X11_cut (N : Nat) (σ : CS) (x1 : Int32) : Option (Int32 × CS) :=
  (if x1 < 0 then f_X11_cut_12 N σ else (if x1 ≤ (σ.i 5) then some (((σ.i 5) - x1), CS.setI σ 5 x1) else f_X11_cut_12 N σ))
noncomputable def f_X11_kind (N : Nat) (σ : CS) (x1 : Int32) : Option (Int32 × CS) :=
  (f_X10_isKind N σ x1).bind fun p1 => (if p1.1 = 0 then some ((-1), p1.2) else (f_X10_isFull N p1.2).bind fun p6 => (if p6.1 = 0 then (f_X10_addKind N p6.2 x1).bind fun p11 => some (p11.1, p11.2) else some ((-2), p6.2)))
noncomputable def f_X11_isKindOrNothing_16 (N : Nat) (σ : CS) : Option (Int32 × CS) :=
  some (1, σ)
noncomputable def f_X11_isKindOrNothing (N : Nat) (σ : CS) (x1 : Int32) : Option (Int32 × CS) :=
  (if x1 = (-1) then f_X11_isKindOrNothing_16 N σ else (f_X10_isKind N σ x1).bind fun p2 => (if p2.1 = 0 then some (0, p2.2) else f_X11_isKindOrNothing_16 N p2.2))
noncomputable def f_X11_resource_19 (N : Nat) (σ : CS) : Option (Int32 × CS) :=
  some ((-1), σ)
noncomputable def f_X11_resource_38 (N : Nat) (σ : CS) : Option (Int32 × CS) :=
  some ((-1), σ)
noncomputable def f_X11_resource (N : Nat) (σ : CS) (x1 : Int32) (x2 : Int32) (x3 : Int32) (x4 : Int32) : Option (Int32 × CS) :=
  (if x1 < 0 then f_X11_resource_19 N σ else (if 8 ≤ x1 then f_X11_resource_19 N σ else (if x2 < 0 then f_X11_resource_19 N σ else (if x2 ≤ 1 then (f_X11_isKindOrNothing N σ x3).bind fun p5 => (if p5.1 = 0 then f_X11_resource_38 N p5.2 else (f_X11_isKindOrNothing N p5.2 x4).bind fun p10 => (if p10.1 = 0 then f_X11_resource_38 N p10.2 else (f_X10_tellResource N p10.2 x1 x2 x3 x4).bind fun p15 => some (1, p15.2))) else f_X11_resource_19 N σ))))
noncomputable def f_X11_asserts_16 (N : Nat) (σ : CS) (x1 : Int32) (x2 : Int32) : Option (Int32 × CS) :=
  if x1 = 0 ∨ x1 = 1 then some (x2, CS.setI σ 14 x1) else none
noncomputable def f_X11_asserts (N : Nat) (σ : CS) (x1 : Int32) : Option (Int32 × CS) :=
  (if (σ.i 14) = 0 then f_X11_asserts_16 N σ x1 0 else f_X11_asserts_16 N σ x1 1)
noncomputable def f_X11_read_43 (N : Nat) (E1 : CS → Option (Unit × CS)) (E2 : CS → Option (Int32 × CS)) (σ : CS) : Option (Int32 × CS) :=
  (if (σ.i 7) = 0 then some (((-10) - (σ.i 33)), σ) else some ((σ.i 24), σ))
noncomputable def f_X11_read (N : Nat) (E1 : CS → Option (Unit × CS)) (E2 : CS → Option (Int32 × CS)) (σ : CS) : Option (Int32 × CS) :=
  (f_X7_translate N E1 E2 (CS.setI (CS.setI σ 5 0) 8 0) (σ.i 5)).bind fun p1 => (if p1.1 = 0 then f_X11_read_43 N E1 E2 (CS.setI (CS.setI p1.2 6 p1.1) 7 1) else f_X11_read_43 N E1 E2 (CS.setI (CS.setI p1.2 6 p1.1) 7 0))
noncomputable def f_X11_fault (N : Nat) (σ : CS) : Option (Int32 × CS) :=
  some ((σ.i 6), σ)
noncomputable def f_X11_program_9 (N : Nat) (σ : CS) : Option (Int32 × CS) :=
  some ((-1), σ)
noncomputable def f_X11_program (N : Nat) (σ : CS) (x1 : Int32) : Option (Int32 × CS) :=
  (if x1 < 0 then f_X11_program_9 N σ else (if x1 ≤ 3 then (if (σ.i 7) = 0 then some ((-3), σ) else (if x1 = 0 then some ((σ.i 24), σ) else (if x1 = 1 then (if (σ.i 27) = 0 then some (0, σ) else some (1, σ)) else (if x1 = 2 then some ((σ.i 25), σ) else some ((σ.i 26), σ))))) else f_X11_program_9 N σ))
noncomputable def f_X11_run (N : Nat) (σ : CS) (x1 : Int32) (x2 : Int32) : Option (Int32 × CS) :=
  (if (σ.i 7) = 0 then some ((-3), σ) else (f_X3_perform N (CS.setI σ 8 1) x1 x2).bind fun p2 => some (p2.1, p2.2))
noncomputable def f_X11_ran_10 (N : Nat) (σ : CS) : Option (Int32 × CS) :=
  some ((-1), σ)
noncomputable def f_X11_ran (N : Nat) (σ : CS) (x1 : Int32) : Option (Int32 × CS) :=
  (if x1 < 0 then f_X11_ran_10 N σ else (if x1 ≤ 6 then (if (σ.i 8) = 0 then some ((-3), σ) else (f_X3_answer N σ x1).bind fun p4 => some (p4.1, p4.2)) else f_X11_ran_10 N σ))
noncomputable def f_X11_trace_31 (N : Nat) (σ : CS) : Option (Int32 × CS) :=
  some ((-1), σ)
noncomputable def f_X11_trace (N : Nat) (σ : CS) (x1 : Int32) (x2 : Int32) : Option (Int32 × CS) :=
  (if (σ.i 8) = 0 then f_X11_trace_31 N σ else (if x1 < 0 then f_X11_trace_31 N σ else (if (σ.i 69) ≤ x1 then f_X11_trace_31 N σ else (if x2 < 0 then f_X11_trace_31 N σ else (if x2 ≤ 1 then some ((gAt (σ.a 64) 400 ((2 * x1) + x2)), σ) else f_X11_trace_31 N σ)))))
noncomputable def f_X11_suppressed_44 (N : Nat) (σ : CS) : Option (Int32 × CS) :=
  some ((-1), σ)
noncomputable def f_X11_suppressed_19 (N : Nat) (σ : CS) (x1 : Int32) (x2 : Int32) (x3 : Option Nat) : Option (Int32 × CS) :=
  oCase x3 (f_X11_suppressed_44 N σ) (fun a3 => (if x1 < 0 then f_X11_suppressed_44 N σ else if oK σ a3 2 then (if (CS.o σ a3 4) ≤ x1 then f_X11_suppressed_44 N σ else (if x2 < 0 then f_X11_suppressed_44 N σ else (if x2 ≤ 1 then (if x2 = 0 then if oK σ (a3 + 1) 3 then some ((gAt (CS.oa σ (a3 + 1)) 8 x1), σ) else none else if oK σ (a3 + 2) 3 then some ((gAt (CS.oa σ (a3 + 2)) 8 x1), σ) else none) else f_X11_suppressed_44 N σ))) else none))
noncomputable def f_X11_suppressed (N : Nat) (σ : CS) (x1 : Int32) (x2 : Int32) : Option (Int32 × CS) :=
  (if (σ.i 8) = 0 then f_X11_suppressed_19 N σ x1 x2 none else (f_X3_lastThrown N σ).bind fun p16 => oCase p16.1 (f_X11_suppressed_19 N p16.2 x1 x2 none) (fun a21 => f_X11_suppressed_19 N p16.2 x1 x2 (some a21)))
noncomputable def f_X11_under_22 (N : Nat) (σ : CS) : Option (Int32 × CS) :=
  some ((-1), σ)
noncomputable def f_X11_under (N : Nat) (σ : CS) (x1 : Int32) (x2 : Int32) : Option (Int32 × CS) :=
  (f_X10_isKind N σ x1).bind fun p1 => (if p1.1 = 0 then f_X11_under_22 N p1.2 else (f_X10_isKind N p1.2 x2).bind fun p6 => (if p6.1 = 0 then f_X11_under_22 N p6.2 else (f_X10_isUnder N p6.2 x1 x2).bind fun p11 => (if p11.1 = 0 then some (0, p11.2) else some (1, p11.2))))
theorem m_X0_clear (N : Nat) (σ : CS) : Mono (CS.hs σ) (f_X0_clear N σ) := by
  unfold f_X0_clear
  exact (mono_some (Nat.le_refl _))
theorem m_X0_add (N : Nat) (σ : CS) (x1 : Int32) (x2 : Int32) : Mono (CS.hs σ) (f_X0_add N σ x1 x2) := by
  unfold f_X0_add
  exact (mono_some (Nat.le_refl _))
theorem m_X0_newTarget (N : Nat) (σ : CS) : Mono (CS.hs σ) (f_X0_newTarget N σ) := by
  unfold f_X0_newTarget
  exact (mono_some (Nat.le_refl _))
theorem m_X0_aim (N : Nat) (σ : CS) (x1 : Int32) : Mono (CS.hs σ) (f_X0_aim N σ x1) := by
  unfold f_X0_aim
  exact (mono_some (Nat.le_refl _))
theorem m_X0_newCells (N : Nat) (σ : CS) (x1 : Int32) : Mono (CS.hs σ) (f_X0_newCells N σ x1) := by
  unfold f_X0_newCells
  exact (mono_some (Nat.le_refl _))
theorem mb_X0_hasCase_2 (N : Nat) (K : CS → Int32 → Int32 → Option (Int32 × CS)) (hMK : ∀ (σ : CS) (x2 : Int32) (x3 : Int32), Mono (CS.hs σ) (K σ x2 x3)) (σ : CS) (x2 : Int32) (x3 : Int32) : Mono (CS.hs σ) (b_X0_hasCase_2 N K σ x2 x3) := by
  unfold b_X0_hasCase_2
  exact (mono_ite (mono_some (Nat.le_refl _)) (mono_ite (mono_some (Nat.le_refl _)) (hMK σ x2 (x3 + 1))))
theorem m_X0_hasCase_2 (N : Nat) : ∀ (n : Nat) (σ : CS) (x2 : Int32) (x3 : Int32), Mono (CS.hs σ) (f_X0_hasCase_2 N n σ x2 x3)
  | 0, _, _, _ => mono_none
  | n+1, σ, x2, x3 => mb_X0_hasCase_2 N (f_X0_hasCase_2 N n) (fun σ x2 x3 => m_X0_hasCase_2 N n σ x2 x3) σ x2 x3
theorem m_X0_hasCase (N : Nat) (σ : CS) (x1 : Int32) (x2 : Int32) : Mono (CS.hs σ) (f_X0_hasCase N σ x1 x2) := by
  unfold f_X0_hasCase
  exact (m_X0_hasCase_2 N N σ x2 x1)
theorem m_X0_addCase (N : Nat) (σ : CS) (x1 : Int32) (x2 : Int32) : Mono (CS.hs σ) (f_X0_addCase N σ x1 x2) := by
  unfold f_X0_addCase
  exact (mono_some (Nat.le_refl _))
theorem mb_X0_addCases_2 (N : Nat) (K : CS → Int32 → Int32 → Int32 → Option (Unit × CS)) (hMK : ∀ (σ : CS) (x1 : Int32) (x2 : Int32) (x3 : Int32), Mono (CS.hs σ) (K σ x1 x2 x3)) (σ : CS) (x1 : Int32) (x2 : Int32) (x3 : Int32) : Mono (CS.hs σ) (b_X0_addCases_2 N K σ x1 x2 x3) := by
  unfold b_X0_addCases_2
  exact (mono_ite (mono_bind (m_X0_add N (CS.setI σ 22 x1) 6 0) (fun p2 => (mono_bind (m_X0_add N p2.2 30 x2) (fun p6 => (mono_some (Nat.le_refl _)))))) (mono_bind (m_X0_add N σ 0 (gAt (σ.a 18) 320 x3)) (fun p11 => (mono_bind (m_X0_add N p11.2 34 (gAt (p11.2.a 19) 320 x3)) (fun p16 => (hMK p16.2 x1 x2 (x3 + 1)))))))
theorem m_X0_addCases_2 (N : Nat) : ∀ (n : Nat) (σ : CS) (x1 : Int32) (x2 : Int32) (x3 : Int32), Mono (CS.hs σ) (f_X0_addCases_2 N n σ x1 x2 x3)
  | 0, _, _, _, _ => mono_none
  | n+1, σ, x1, x2, x3 => mb_X0_addCases_2 N (f_X0_addCases_2 N n) (fun σ x1 x2 x3 => m_X0_addCases_2 N n σ x1 x2 x3) σ x1 x2 x3
theorem m_X0_addCases (N : Nat) (σ : CS) (x1 : Int32) (x2 : Int32) : Mono (CS.hs σ) (f_X0_addCases N σ x1 x2) := by
  unfold f_X0_addCases
  exact (m_X0_addCases_2 N N σ x1 x2 x1)
theorem m_X9_stop (N : Nat) (σ : CS) : Mono (CS.hs σ) (f_X9_stop N σ) := by
  unfold f_X9_stop
  exact (mono_some (Nat.le_refl _))
theorem m_X1_fail (N : Nat) (σ : CS) (x1 : Int32) (x2 : Int32) : Mono (CS.hs σ) (f_X1_fail N σ x1 x2) := by
  unfold f_X1_fail
  exact (mono_ite (mono_bind (m_X9_stop N (CS.setI (CS.setI σ 32 x1) 33 x2)) (fun p2 => (mono_some (Nat.le_refl _)))) (mono_some (Nat.le_refl _)))
theorem m_X1_found (N : Nat) (σ : CS) (x1 : Int32) : Mono (CS.hs σ) (f_X1_found N σ x1) := by
  unfold f_X1_found
  exact (mono_ite (mono_some (Nat.le_refl _)) (mono_some (Nat.le_refl _)))
theorem m_X1_misplaced (N : Nat) (σ : CS) : Mono (CS.hs σ) (f_X1_misplaced N σ) := by
  unfold f_X1_misplaced
  exact (mono_bind (m_X1_found N σ 6) (fun p1 => (mono_ite (mono_bind (m_X1_fail N p1.2 2 (p1.2.i 44)) (fun p6 => (mono_some (Nat.le_refl _)))) (mono_bind (m_X1_fail N p1.2 1 (p1.2.i 44)) (fun p10 => (mono_some (Nat.le_refl _)))))))
theorem m_X9_byteAt_30 (N : Nat) (σ : CS) : Mono (CS.hs σ) (f_X9_byteAt_30 N σ ) := by
  unfold f_X9_byteAt_30
  exact (mono_some (Nat.le_refl _))
theorem m_X9_byteAt (N : Nat) (σ : CS) (x1 : Int32) : Mono (CS.hs σ) (f_X9_byteAt N σ x1) := by
  unfold f_X9_byteAt
  exact (mono_ite (m_X9_byteAt_30 N σ) (mono_ite (m_X9_byteAt_30 N σ) (mono_ite (m_X9_byteAt_30 N σ) (mono_ite (mono_some (Nat.le_refl _)) mono_none))))
theorem m_X9_isDigit_16 (N : Nat) (σ : CS) : Mono (CS.hs σ) (f_X9_isDigit_16 N σ ) := by
  unfold f_X9_isDigit_16
  exact (mono_some (Nat.le_refl _))
theorem m_X9_isDigit (N : Nat) (σ : CS) (x0 : Int32) : Mono (CS.hs σ) (f_X9_isDigit N σ x0) := by
  unfold f_X9_isDigit
  exact (mono_ite (m_X9_isDigit_16 N σ) (mono_ite (m_X9_isDigit_16 N σ) (mono_some (Nat.le_refl _))))
theorem m_X9_takeNumber_67 (N : Nat) (σ : CS) : Mono (CS.hs σ) (f_X9_takeNumber_67 N σ ) := by
  unfold f_X9_takeNumber_67
  exact (mono_ite (mono_some (Nat.le_refl _)) (mono_some (Nat.le_refl _)))
theorem mb_X9_takeNumber_7 (N : Nat) (K : CS → Int32 → Option (Unit × CS)) (hMK : ∀ (σ : CS) (x1 : Int32), Mono (CS.hs σ) (K σ x1)) (σ : CS) (x1 : Int32) : Mono (CS.hs σ) (b_X9_takeNumber_7 N K σ x1) := by
  unfold b_X9_takeNumber_7
  exact (mono_ite (m_X9_takeNumber_67 N σ) (mono_bind (m_X9_byteAt N σ (σ.i 42)) (fun p3 => (mono_bind (m_X9_isDigit N p3.2 p3.1) (fun p7 => (mono_ite (m_X9_takeNumber_67 N p7.2) (mono_bind (m_X9_byteAt N p7.2 (p7.2.i 42)) (fun p12 => (hMK (CS.setI (CS.setI p12.2 45 ((((p7.2.i 45) * 10) + p12.1) - 48)) 42 ((p12.2.i 42) + 1)) (x1 + 1))))))))))
theorem m_X9_takeNumber_7 (N : Nat) : ∀ (n : Nat) (σ : CS) (x1 : Int32), Mono (CS.hs σ) (f_X9_takeNumber_7 N n σ x1)
  | 0, _, _ => mono_none
  | n+1, σ, x1 => mb_X9_takeNumber_7 N (f_X9_takeNumber_7 N n) (fun σ x1 => m_X9_takeNumber_7 N n σ x1) σ x1
theorem m_X9_takeNumber (N : Nat) (σ : CS) : Mono (CS.hs σ) (f_X9_takeNumber N σ) := by
  unfold f_X9_takeNumber
  exact (m_X9_takeNumber_7 N N (CS.setI σ 45 0) 0)
theorem m_X9_isLetter_16 (N : Nat) (σ : CS) : Mono (CS.hs σ) (f_X9_isLetter_16 N σ ) := by
  unfold f_X9_isLetter_16
  exact (mono_some (Nat.le_refl _))
theorem m_X9_isLetter (N : Nat) (σ : CS) (x0 : Int32) : Mono (CS.hs σ) (f_X9_isLetter N σ x0) := by
  unfold f_X9_isLetter
  exact (mono_ite (m_X9_isLetter_16 N σ) (mono_ite (m_X9_isLetter_16 N σ) (mono_some (Nat.le_refl _))))
theorem m_X9_rowType_171 (N : Nat) (σ : CS) (x6 : Int64) : Mono (CS.hs σ) (f_X9_rowType_171 N σ x6) := by
  unfold f_X9_rowType_171
  exact (mono_ite (mono_ite (mono_some (Nat.le_refl _)) (mono_some (Nat.le_refl _))) (mono_ite (mono_ite (mono_some (Nat.le_refl _)) (mono_ite (mono_some (Nat.le_refl _)) (mono_some (Nat.le_refl _)))) (mono_some (Nat.le_refl _))))
theorem m_X9_rowType_153 (N : Nat) (σ : CS) (x2 : Int64) (x4 : Int32) (x6 : Int64) : Mono (CS.hs σ) (f_X9_rowType_153 N σ x2 x4 x6) := by
  unfold f_X9_rowType_153
  exact (mono_ite (m_X9_rowType_171 N (CS.setI σ 45 (((x2 : Int64).toInt32) + 10)) x6) (m_X9_rowType_171 N (CS.setI σ 45 (((x2 : Int64).toInt32) + 0)) x6))
theorem m_X9_rowType_129 (N : Nat) (σ : CS) (x2 : Int64) (x4 : Int32) : Mono (CS.hs σ) (f_X9_rowType_129 N σ x2 x4) := by
  unfold f_X9_rowType_129
  exact (mono_ite (m_X9_rowType_153 N σ x2 x4 (σ.l >>> ((16 : Int32).toInt64 &&& 63))) (m_X9_rowType_153 N σ x2 x4 (σ.l >>> ((8 : Int32).toInt64 &&& 63))))
theorem m_X9_rowType_117 (N : Nat) (σ : CS) (x2 : Int64) (x4 : Int32) (x5 : Int32) : Mono (CS.hs σ) (f_X9_rowType_117 N σ x2 x4 x5) := by
  unfold f_X9_rowType_117
  exact (mono_ite (mono_ite (mono_some (Nat.le_refl _)) (m_X9_rowType_129 N σ x2 x4)) (m_X9_rowType_129 N σ x2 x4))
theorem m_X9_rowType_114 (N : Nat) (σ : CS) (x2 : Int64) (x4 : Int32) : Mono (CS.hs σ) (f_X9_rowType_114 N σ x2 x4) := by
  unfold f_X9_rowType_114
  exact (m_X9_rowType_117 N σ x2 x4 0)
theorem m_X9_rowType_73 (N : Nat) (σ : CS) (x1 : Int32) (x2 : Int64) (x4 : Int32) : Mono (CS.hs σ) (f_X9_rowType_73 N σ x1 x2 x4) := by
  unfold f_X9_rowType_73
  exact (mono_ite (mono_ite (m_X9_rowType_114 N σ x2 x4) (mono_ite (m_X9_rowType_114 N σ x2 x4) (mono_ite (m_X9_rowType_117 N σ x2 x4 1) (m_X9_rowType_114 N σ x2 x4)))) (m_X9_rowType_114 N σ x2 x4))
theorem m_X9_rowType_70 (N : Nat) (σ : CS) (x1 : Int32) (x2 : Int64) : Mono (CS.hs σ) (f_X9_rowType_70 N σ x1 x2) := by
  unfold f_X9_rowType_70
  exact (m_X9_rowType_73 N σ x1 x2 0)
theorem mb_X9_rowType_2 (N : Nat) (K : CS → Int32 → Int32 → Option (Int32 × CS)) (hMK : ∀ (σ : CS) (x1 : Int32) (x2 : Int32), Mono (CS.hs σ) (K σ x1 x2)) (σ : CS) (x1 : Int32) (x2 : Int32) : Mono (CS.hs σ) (b_X9_rowType_2 N K σ x1 x2) := by
  unfold b_X9_rowType_2
  exact (mono_ite (mono_ite (mono_ite (m_X9_rowType_70 N σ x1 ((σ.l &&& 255) - 48)) (mono_ite (m_X9_rowType_70 N σ x1 ((σ.l &&& 255) - 48)) (m_X9_rowType_73 N σ x1 ((σ.l &&& 255) - 48) 1))) (m_X9_rowType_70 N σ x1 ((σ.l &&& 255) - 48))) (mono_ite (mono_ite (mono_some (Nat.le_refl _)) (hMK σ x1 (x2 + 1))) mono_none))
theorem m_X9_rowType_2 (N : Nat) : ∀ (n : Nat) (σ : CS) (x1 : Int32) (x2 : Int32), Mono (CS.hs σ) (f_X9_rowType_2 N n σ x1 x2)
  | 0, _, _, _ => mono_none
  | n+1, σ, x1, x2 => mb_X9_rowType_2 N (f_X9_rowType_2 N n) (fun σ x1 x2 => m_X9_rowType_2 N n σ x1 x2) σ x1 x2
theorem m_X9_rowType (N : Nat) (σ : CS) (x1 : Int32) : Mono (CS.hs σ) (f_X9_rowType N σ x1) := by
  unfold f_X9_rowType
  exact (m_X9_rowType_2 N N σ x1 0)
theorem m_X9_takeRow_79 (N : Nat) (σ : CS) : Mono (CS.hs σ) (f_X9_takeRow_79 N σ ) := by
  unfold f_X9_takeRow_79
  exact (mono_ite (mono_bind (m_X9_rowType N σ ((σ.i 42) - (σ.i 44))) (fun p3 => (mono_some (Nat.le_refl _)))) (mono_some (Nat.le_refl _)))
theorem mb_X9_takeRow_7 (N : Nat) (K : CS → Int32 → Option (Unit × CS)) (hMK : ∀ (σ : CS) (x1 : Int32), Mono (CS.hs σ) (K σ x1)) (σ : CS) (x1 : Int32) : Mono (CS.hs σ) (b_X9_takeRow_7 N K σ x1) := by
  unfold b_X9_takeRow_7
  exact (mono_ite (m_X9_takeRow_79 N σ) (mono_bind (m_X9_byteAt N σ (σ.i 42)) (fun p7 => (mono_bind (m_X9_isDigit N p7.2 p7.1) (fun p11 => (mono_ite (mono_bind (m_X9_byteAt N p11.2 (p11.2.i 42)) (fun p20 => (mono_bind (m_X9_isLetter N p20.2 p20.1) (fun p24 => (mono_ite (m_X9_takeRow_79 N p24.2) (mono_bind (m_X9_byteAt N p24.2 (p24.2.i 42)) (fun p29 => (hMK (CS.setI (CS.setL p29.2 ((p24.2.l <<< ((8 : Int32).toInt64 &&& 63)) ||| (p29.1 : Int32).toInt64)) 42 ((p29.2.i 42) + 1)) (x1 + 1))))))))) (mono_bind (m_X9_byteAt N p11.2 (p11.2.i 42)) (fun p16 => (hMK (CS.setI (CS.setL p16.2 ((p11.2.l <<< ((8 : Int32).toInt64 &&& 63)) ||| (p16.1 : Int32).toInt64)) 42 ((p16.2.i 42) + 1)) (x1 + 1))))))))))
theorem m_X9_takeRow_7 (N : Nat) : ∀ (n : Nat) (σ : CS) (x1 : Int32), Mono (CS.hs σ) (f_X9_takeRow_7 N n σ x1)
  | 0, _, _ => mono_none
  | n+1, σ, x1 => mb_X9_takeRow_7 N (f_X9_takeRow_7 N n) (fun σ x1 => m_X9_takeRow_7 N n σ x1) σ x1
theorem m_X9_takeRow (N : Nat) (σ : CS) : Mono (CS.hs σ) (f_X9_takeRow N σ) := by
  unfold f_X9_takeRow
  exact (m_X9_takeRow_7 N N (CS.setL σ 0) 0)
theorem m_X9_longSign_73 (N : Nat) (σ : CS) (x0 : Int32) (x1 : Int32) : Mono (CS.hs σ) (f_X9_longSign_73 N σ x0 x1) := by
  unfold f_X9_longSign_73
  exact (mono_ite (mono_ite (mono_some (Nat.le_refl _)) (mono_ite (mono_some (Nat.le_refl _)) (mono_ite (mono_some (Nat.le_refl _)) (mono_some (Nat.le_refl _))))) (mono_some (Nat.le_refl _)))
theorem m_X9_longSign (N : Nat) (σ : CS) (x0 : Int32) (x1 : Int32) : Mono (CS.hs σ) (f_X9_longSign N σ x0 x1) := by
  unfold f_X9_longSign
  exact (mono_ite (mono_ite (mono_some (Nat.le_refl _)) (mono_ite (mono_some (Nat.le_refl _)) (mono_ite (mono_some (Nat.le_refl _)) (mono_ite (mono_some (Nat.le_refl _)) (mono_some (Nat.le_refl _)))))) (mono_ite (mono_ite (mono_some (Nat.le_refl _)) (m_X9_longSign_73 N σ x0 x1)) (m_X9_longSign_73 N σ x0 x1)))
theorem m_X9_isSign (N : Nat) (σ : CS) (x0 : Int32) : Mono (CS.hs σ) (f_X9_isSign N σ x0) := by
  unfold f_X9_isSign
  exact (mono_ite (mono_some (Nat.le_refl _)) (mono_ite (mono_some (Nat.le_refl _)) (mono_ite (mono_some (Nat.le_refl _)) (mono_ite (mono_some (Nat.le_refl _)) (mono_ite (mono_some (Nat.le_refl _)) (mono_ite (mono_some (Nat.le_refl _)) (mono_ite (mono_some (Nat.le_refl _)) (mono_ite (mono_some (Nat.le_refl _)) (mono_ite (mono_some (Nat.le_refl _)) (mono_ite (mono_some (Nat.le_refl _)) (mono_ite (mono_some (Nat.le_refl _)) (mono_ite (mono_some (Nat.le_refl _)) (mono_ite (mono_some (Nat.le_refl _)) (mono_ite (mono_some (Nat.le_refl _)) (mono_ite (mono_some (Nat.le_refl _)) (mono_ite (mono_some (Nat.le_refl _)) (mono_ite (mono_some (Nat.le_refl _)) (mono_ite (mono_some (Nat.le_refl _)) (mono_ite (mono_some (Nat.le_refl _)) (mono_some (Nat.le_refl _)))))))))))))))))))))
theorem m_X9_takeSign (N : Nat) (σ : CS) : Mono (CS.hs σ) (f_X9_takeSign N σ) := by
  unfold f_X9_takeSign
  exact (mono_bind (m_X9_byteAt N σ (σ.i 42)) (fun p1 => (mono_bind (m_X9_byteAt N p1.2 ((p1.2.i 42) + 1)) (fun p5 => (mono_bind (m_X9_longSign N p5.2 p1.1 p5.1) (fun p9 => (mono_ite (mono_bind (m_X9_isSign N (CS.setI (CS.setI p9.2 43 p9.1) 42 ((p9.2.i 42) + 1)) p1.1) (fun p14 => (mono_ite (mono_some (Nat.le_refl _)) (mono_some (Nat.le_refl _))))) (mono_some (Nat.le_refl _)))))))))
theorem m_X9_advance_51 (N : Nat) (σ : CS) : Mono (CS.hs σ) (f_X9_advance_51 N σ ) := by
  unfold f_X9_advance_51
  exact (mono_ite (mono_bind (m_X9_byteAt N (CS.setI σ 44 (σ.i 42)) (σ.i 42)) (fun p3 => (mono_bind (m_X9_isDigit N p3.2 p3.1) (fun p7 => (mono_ite (mono_bind (m_X9_byteAt N p7.2 (p7.2.i 42)) (fun p12 => (mono_bind (m_X9_isLetter N p12.2 p12.1) (fun p16 => (mono_ite (mono_bind (m_X9_takeSign N p16.2) (fun p21 => (mono_some (Nat.le_refl _)))) (mono_bind (m_X9_takeRow N p16.2) (fun p25 => (mono_some (Nat.le_refl _))))))))) (mono_bind (m_X9_takeNumber N p7.2) (fun p29 => (mono_some (Nat.le_refl _))))))))) (mono_some (Nat.le_refl _)))
theorem mb_X9_advance_2 (N : Nat) (K : CS → Int32 → Option (Unit × CS)) (hMK : ∀ (σ : CS) (x1 : Int32), Mono (CS.hs σ) (K σ x1)) (σ : CS) (x1 : Int32) : Mono (CS.hs σ) (b_X9_advance_2 N K σ x1) := by
  unfold b_X9_advance_2
  exact (mono_ite (m_X9_advance_51 N σ) (mono_bind (m_X9_byteAt N σ (σ.i 42)) (fun p33 => (mono_ite (hMK (CS.setI p33.2 42 ((p33.2.i 42) + 1)) (x1 + 1)) (mono_bind (m_X9_byteAt N p33.2 (p33.2.i 42)) (fun p38 => (mono_ite (hMK (CS.setI p38.2 42 ((p38.2.i 42) + 1)) (x1 + 1)) (m_X9_advance_51 N p38.2))))))))
theorem m_X9_advance_2 (N : Nat) : ∀ (n : Nat) (σ : CS) (x1 : Int32), Mono (CS.hs σ) (f_X9_advance_2 N n σ x1)
  | 0, _, _ => mono_none
  | n+1, σ, x1 => mb_X9_advance_2 N (f_X9_advance_2 N n) (fun σ x1 => m_X9_advance_2 N n σ x1) σ x1
theorem m_X9_advance (N : Nat) (σ : CS) : Mono (CS.hs σ) (f_X9_advance N σ) := by
  unfold f_X9_advance
  exact (m_X9_advance_2 N N σ 0)
theorem m_X1_skip_17 (N : Nat) (σ : CS) (x2 : Int32) : Mono (CS.hs σ) (f_X1_skip_17 N σ x2) := by
  unfold f_X1_skip_17
  exact (mono_ite (mono_some (Nat.le_refl _)) mono_none)
theorem m_X1_skip (N : Nat) (σ : CS) (x1 : Int32) : Mono (CS.hs σ) (f_X1_skip N σ x1) := by
  unfold f_X1_skip
  exact (mono_bind (m_X1_found N σ x1) (fun p1 => (mono_ite (m_X1_skip_17 N p1.2 p1.1) (mono_bind (m_X9_advance N p1.2) (fun p7 => (m_X1_skip_17 N p7.2 p1.1))))))
theorem m_X1_expect (N : Nat) (σ : CS) (x1 : Int32) : Mono (CS.hs σ) (f_X1_expect N σ x1) := by
  unfold f_X1_expect
  exact (mono_bind (m_X1_found N σ x1) (fun p1 => (mono_ite (mono_bind (m_X1_misplaced N p1.2) (fun p6 => (mono_some (Nat.le_refl _)))) (mono_bind (m_X9_advance N p1.2) (fun p10 => (mono_some (Nat.le_refl _)))))))
theorem m_X1_open (N : Nat) (σ : CS) (x1 : Int32) : Mono (CS.hs σ) (f_X1_open N σ x1) := by
  unfold f_X1_open
  exact (mono_bind (m_X1_found N σ x1) (fun p1 => (mono_ite (mono_bind (m_X1_misplaced N p1.2) (fun p15 => (mono_some (Nat.le_refl _)))) (mono_ite (mono_bind (m_X9_advance N (CS.setI p1.2 34 ((p1.2.i 34) + 1))) (fun p7 => (mono_some (Nat.le_refl _)))) (mono_bind (m_X1_fail N p1.2 6 (p1.2.i 44)) (fun p11 => (mono_some (Nat.le_refl _))))))))
theorem m_X1_close_22 (N : Nat) (σ : CS) : Mono (CS.hs σ) (f_X1_close_22 N σ ) := by
  unfold f_X1_close_22
  exact (mono_some (Nat.le_refl _))
theorem m_X1_close (N : Nat) (σ : CS) (x1 : Int32) : Mono (CS.hs σ) (f_X1_close N σ x1) := by
  unfold f_X1_close
  exact (mono_bind (m_X1_found N σ x1) (fun p1 => (mono_ite (mono_bind (m_X1_misplaced N p1.2) (fun p6 => (m_X1_close_22 N p6.2))) (mono_bind (m_X9_advance N p1.2) (fun p10 => (m_X1_close_22 N p10.2))))))
theorem mb_X1_product_6 (N : Nat) (E1 : CS → Option (Unit × CS)) (E2 : CS → Option (Int32 × CS)) (hm1 : ∀ σ, Mono (CS.hs σ) (E1 σ)) (hm2 : ∀ σ, Mono (CS.hs σ) (E2 σ)) (K : CS → Int32 → Option (Unit × CS)) (hMK : ∀ (σ : CS) (x1 : Int32), Mono (CS.hs σ) (K σ x1)) (σ : CS) (x1 : Int32) : Mono (CS.hs σ) (b_X1_product_6 N E1 E2 K σ x1) := by
  unfold b_X1_product_6
  exact (mono_ite (mono_some (Nat.le_refl _)) (mono_bind (m_X1_found N σ 42) (fun p6 => (mono_ite (mono_bind (m_X1_found N p6.2 47) (fun p57 => (mono_ite (mono_bind (m_X1_found N p57.2 37) (fun p108 => (mono_ite (mono_some (Nat.le_refl _)) (mono_bind (m_X1_found N p108.2 42) (fun p113 => (mono_ite (mono_bind (m_X1_found N p113.2 47) (fun p118 => (mono_ite (mono_bind (m_X9_advance N p118.2) (fun p123 => (mono_bind (hm1 p123.2) (fun p127 => (mono_bind (m_X0_add N p127.2 11 0) (fun p131 => (hMK p131.2 (x1 + 1)))))))) (mono_bind (m_X9_advance N p118.2) (fun p135 => (mono_bind (hm1 p135.2) (fun p139 => (mono_bind (m_X0_add N p139.2 10 0) (fun p143 => (hMK p143.2 (x1 + 1))))))))))) (mono_bind (m_X9_advance N p113.2) (fun p147 => (mono_bind (hm1 p147.2) (fun p151 => (mono_bind (m_X0_add N p151.2 9 0) (fun p155 => (hMK p155.2 (x1 + 1)))))))))))))) (mono_bind (m_X1_found N p57.2 42) (fun p62 => (mono_ite (mono_bind (m_X1_found N p62.2 47) (fun p67 => (mono_ite (mono_bind (m_X9_advance N p67.2) (fun p72 => (mono_bind (hm1 p72.2) (fun p76 => (mono_bind (m_X0_add N p76.2 11 0) (fun p80 => (hMK p80.2 (x1 + 1)))))))) (mono_bind (m_X9_advance N p67.2) (fun p84 => (mono_bind (hm1 p84.2) (fun p88 => (mono_bind (m_X0_add N p88.2 10 0) (fun p92 => (hMK p92.2 (x1 + 1))))))))))) (mono_bind (m_X9_advance N p62.2) (fun p96 => (mono_bind (hm1 p96.2) (fun p100 => (mono_bind (m_X0_add N p100.2 9 0) (fun p104 => (hMK p104.2 (x1 + 1)))))))))))))) (mono_bind (m_X1_found N p6.2 42) (fun p11 => (mono_ite (mono_bind (m_X1_found N p11.2 47) (fun p16 => (mono_ite (mono_bind (m_X9_advance N p16.2) (fun p21 => (mono_bind (hm1 p21.2) (fun p25 => (mono_bind (m_X0_add N p25.2 11 0) (fun p29 => (hMK p29.2 (x1 + 1)))))))) (mono_bind (m_X9_advance N p16.2) (fun p33 => (mono_bind (hm1 p33.2) (fun p37 => (mono_bind (m_X0_add N p37.2 10 0) (fun p41 => (hMK p41.2 (x1 + 1))))))))))) (mono_bind (m_X9_advance N p11.2) (fun p45 => (mono_bind (hm1 p45.2) (fun p49 => (mono_bind (m_X0_add N p49.2 9 0) (fun p53 => (hMK p53.2 (x1 + 1)))))))))))))))
theorem m_X1_product_6 (N : Nat) (E1 : CS → Option (Unit × CS)) (E2 : CS → Option (Int32 × CS)) (hm1 : ∀ σ, Mono (CS.hs σ) (E1 σ)) (hm2 : ∀ σ, Mono (CS.hs σ) (E2 σ)) : ∀ (n : Nat) (σ : CS) (x1 : Int32), Mono (CS.hs σ) (f_X1_product_6 N E1 E2 n σ x1)
  | 0, _, _ => mono_none
  | n+1, σ, x1 => mb_X1_product_6 N E1 E2 hm1 hm2 (f_X1_product_6 N E1 E2 n) (fun σ x1 => m_X1_product_6 N E1 E2 hm1 hm2 n σ x1) σ x1
theorem m_X1_product (N : Nat) (E1 : CS → Option (Unit × CS)) (E2 : CS → Option (Int32 × CS)) (hm1 : ∀ σ, Mono (CS.hs σ) (E1 σ)) (hm2 : ∀ σ, Mono (CS.hs σ) (E2 σ)) (σ : CS) : Mono (CS.hs σ) (f_X1_product N E1 E2 σ) := by
  unfold f_X1_product
  exact (mono_bind (hm1 σ) (fun p1 => (m_X1_product_6 N E1 E2 hm1 hm2 N p1.2 0)))
theorem mb_X1_expression_6 (N : Nat) (E1 : CS → Option (Unit × CS)) (E2 : CS → Option (Int32 × CS)) (hm1 : ∀ σ, Mono (CS.hs σ) (E1 σ)) (hm2 : ∀ σ, Mono (CS.hs σ) (E2 σ)) (K : CS → Int32 → Option (Unit × CS)) (hMK : ∀ (σ : CS) (x1 : Int32), Mono (CS.hs σ) (K σ x1)) (σ : CS) (x1 : Int32) : Mono (CS.hs σ) (b_X1_expression_6 N E1 E2 K σ x1) := by
  unfold b_X1_expression_6
  exact (mono_ite (mono_some (Nat.le_refl _)) (mono_bind (m_X1_found N σ 43) (fun p6 => (mono_ite (mono_bind (m_X1_found N p6.2 45) (fun p40 => (mono_ite (mono_some (Nat.le_refl _)) (mono_bind (m_X1_found N p40.2 43) (fun p45 => (mono_ite (mono_bind (m_X9_advance N p45.2) (fun p50 => (mono_bind (m_X1_product N E1 E2 hm1 hm2 p50.2) (fun p54 => (mono_bind (m_X0_add N p54.2 8 0) (fun p58 => (hMK p58.2 (x1 + 1)))))))) (mono_bind (m_X9_advance N p45.2) (fun p62 => (mono_bind (m_X1_product N E1 E2 hm1 hm2 p62.2) (fun p66 => (mono_bind (m_X0_add N p66.2 7 0) (fun p70 => (hMK p70.2 (x1 + 1)))))))))))))) (mono_bind (m_X1_found N p6.2 43) (fun p11 => (mono_ite (mono_bind (m_X9_advance N p11.2) (fun p16 => (mono_bind (m_X1_product N E1 E2 hm1 hm2 p16.2) (fun p20 => (mono_bind (m_X0_add N p20.2 8 0) (fun p24 => (hMK p24.2 (x1 + 1)))))))) (mono_bind (m_X9_advance N p11.2) (fun p28 => (mono_bind (m_X1_product N E1 E2 hm1 hm2 p28.2) (fun p32 => (mono_bind (m_X0_add N p32.2 7 0) (fun p36 => (hMK p36.2 (x1 + 1)))))))))))))))
theorem m_X1_expression_6 (N : Nat) (E1 : CS → Option (Unit × CS)) (E2 : CS → Option (Int32 × CS)) (hm1 : ∀ σ, Mono (CS.hs σ) (E1 σ)) (hm2 : ∀ σ, Mono (CS.hs σ) (E2 σ)) : ∀ (n : Nat) (σ : CS) (x1 : Int32), Mono (CS.hs σ) (f_X1_expression_6 N E1 E2 n σ x1)
  | 0, _, _ => mono_none
  | n+1, σ, x1 => mb_X1_expression_6 N E1 E2 hm1 hm2 (f_X1_expression_6 N E1 E2 n) (fun σ x1 => m_X1_expression_6 N E1 E2 hm1 hm2 n σ x1) σ x1
theorem m_X1_expression (N : Nat) (E1 : CS → Option (Unit × CS)) (E2 : CS → Option (Int32 × CS)) (hm1 : ∀ σ, Mono (CS.hs σ) (E1 σ)) (hm2 : ∀ σ, Mono (CS.hs σ) (E2 σ)) (σ : CS) : Mono (CS.hs σ) (f_X1_expression N E1 E2 σ) := by
  unfold f_X1_expression
  exact (mono_bind (m_X1_product N E1 E2 hm1 hm2 σ) (fun p1 => (m_X1_expression_6 N E1 E2 hm1 hm2 N p1.2 0)))
theorem m_X4_find_38 (N : Nat) (σ : CS) : Mono (CS.hs σ) (f_X4_find_38 N σ ) := by
  unfold f_X4_find_38
  exact (mono_some (Nat.le_refl _))
theorem mb_X4_find_2 (N : Nat) (K : CS → Int64 → Int32 → Option (Int32 × CS)) (hMK : ∀ (σ : CS) (x1 : Int64) (x3 : Int32), Mono (CS.hs σ) (K σ x1 x3)) (σ : CS) (x1 : Int64) (x3 : Int32) : Mono (CS.hs σ) (b_X4_find_2 N K σ x1 x3) := by
  unfold b_X4_find_2
  exact (mono_ite (m_X4_find_38 N σ) (mono_ite (m_X4_find_38 N σ) (mono_ite (mono_ite (mono_some (Nat.le_refl _)) (hMK σ x1 (x3 + 1))) mono_none)))
theorem m_X4_find_2 (N : Nat) : ∀ (n : Nat) (σ : CS) (x1 : Int64) (x3 : Int32), Mono (CS.hs σ) (f_X4_find_2 N n σ x1 x3)
  | 0, _, _, _ => mono_none
  | n+1, σ, x1, x3 => mb_X4_find_2 N (f_X4_find_2 N n) (fun σ x1 x3 => m_X4_find_2 N n σ x1 x3) σ x1 x3
theorem m_X4_find (N : Nat) (σ : CS) (x1 : Int64) : Mono (CS.hs σ) (f_X4_find N σ x1) := by
  unfold f_X4_find
  exact (m_X4_find_2 N N σ x1 0)
theorem m_X4_cellOf (N : Nat) (σ : CS) (x1 : Int32) : Mono (CS.hs σ) (f_X4_cellOf N σ x1) := by
  unfold f_X4_cellOf
  exact (mono_some (Nat.le_refl _))
theorem m_X1_loadName (N : Nat) (σ : CS) : Mono (CS.hs σ) (f_X1_loadName N σ) := by
  unfold f_X1_loadName
  exact (mono_bind (m_X4_find N σ σ.l) (fun p1 => (mono_ite (mono_bind (m_X4_cellOf N p1.2 p1.1) (fun p6 => (mono_bind (m_X0_add N p6.2 1 p6.1) (fun p10 => (mono_bind (m_X9_advance N p10.2) (fun p14 => (mono_some (Nat.le_refl _)))))))) (mono_bind (m_X1_fail N p1.2 3 (p1.2.i 44)) (fun p18 => (mono_some (Nat.le_refl _)))))))
theorem m_X1_negated_17 (N : Nat) (E1 : CS → Option (Unit × CS)) (E2 : CS → Option (Int32 × CS)) (hm1 : ∀ σ, Mono (CS.hs σ) (E1 σ)) (hm2 : ∀ σ, Mono (CS.hs σ) (E2 σ)) (σ : CS) : Mono (CS.hs σ) (f_X1_negated_17 N E1 E2 σ ) := by
  unfold f_X1_negated_17
  exact (mono_bind (m_X0_add N (CS.setI σ 34 ((σ.i 34) - 1)) 4 0) (fun p6 => (mono_some (Nat.le_refl _))))
theorem m_X1_negated (N : Nat) (E1 : CS → Option (Unit × CS)) (E2 : CS → Option (Int32 × CS)) (hm1 : ∀ σ, Mono (CS.hs σ) (E1 σ)) (hm2 : ∀ σ, Mono (CS.hs σ) (E2 σ)) (σ : CS) : Mono (CS.hs σ) (f_X1_negated N E1 E2 σ) := by
  unfold f_X1_negated
  exact (mono_bind (m_X1_open N σ 45) (fun p1 => (mono_ite (mono_bind (hm1 p1.2) (fun p10 => (m_X1_negated_17 N E1 E2 hm1 hm2 p10.2))) (m_X1_negated_17 N E1 E2 hm1 hm2 p1.2))))
theorem m_X1_caseNumber_44 (N : Nat) (σ : CS) (x1 : Int32) (x2 : Int32) (x4 : Int32) : Mono (CS.hs σ) (f_X1_caseNumber_44 N σ x1 x2 x4) := by
  unfold f_X1_caseNumber_44
  exact (mono_bind (m_X0_hasCase N σ x1 x4) (fun p11 => (mono_ite (mono_bind (m_X0_addCase N p11.2 x4 x2) (fun p16 => (mono_bind (m_X9_advance N p16.2) (fun p20 => (mono_some (Nat.le_refl _)))))) (mono_bind (m_X1_fail N p11.2 4 (p11.2.i 44)) (fun p24 => (mono_some (Nat.le_refl _)))))))
theorem m_X1_caseNumber (N : Nat) (σ : CS) (x1 : Int32) (x2 : Int32) : Mono (CS.hs σ) (f_X1_caseNumber N σ x1 x2) := by
  unfold f_X1_caseNumber
  exact (mono_bind (m_X1_skip N σ 45) (fun p1 => (mono_bind (m_X1_found N p1.2 1) (fun p5 => (mono_ite (mono_bind (m_X1_misplaced N p5.2) (fun p28 => (mono_some (Nat.le_refl _)))) (mono_ite (m_X1_caseNumber_44 N p5.2 x1 x2 (p5.2.i 45)) (m_X1_caseNumber_44 N p5.2 x1 x2 (-(p5.2.i 45)))))))))
theorem m_X5_init (N : Nat) (σ : CS) (x0 : Nat) : Mono (CS.hs σ) (f_X5_init N σ x0) := by
  unfold f_X5_init
  exact (mono_some (Nat.le_refl _))
theorem m_X6_push_48 (N : Nat) (σ : CS) (x1 : Int32) (x2 : Int32) (x3 : Int32) (x4 : Int32) (x5 : Nat) : Mono (CS.hs σ) (f_X6_push_48 N σ x1 x2 x3 x4 x5) := by
  unfold f_X6_push_48
  exact (mono_ite (mono_some (Nat.le_refl _)) mono_none)
theorem m_X6_push (N : Nat) (σ : CS) (x1 : Int32) (x2 : Int32) (x3 : Int32) : Mono (CS.hs σ) (f_X6_push N σ x1 x2 x3) := by
  unfold f_X6_push
  exact (mono_ite (mono_oc (mono_le (Nat.le_succ _) (mono_bind (m_X5_init N (CS.new σ 0) (CS.hs σ)) (fun p5 => (mono_ite (mono_ite (m_X6_push_48 N (CS.setR p5.2 51 (((if (399 : Int32) < (σ.i 53) then (399 : Int32) else (σ.i 53)) : Int32).toNatClampNeg) (some (CS.hs σ))) x1 x2 x3 (if (399 : Int32) < (σ.i 53) then (399 : Int32) else (σ.i 53)) (CS.hs σ)) mono_none) mono_none)))) (fun a3 => (m_X6_push_48 N σ x1 x2 x3 (if (399 : Int32) < (σ.i 53) then (399 : Int32) else (σ.i 53)) a3))) mono_none)
theorem m_X6_row_30 (N : Nat) (σ : CS) : Mono (CS.hs σ) (f_X6_row_30 N σ ) := by
  unfold f_X6_row_30
  exact (mono_some (Nat.le_refl _))
theorem m_X6_row (N : Nat) (σ : CS) (x1 : Int32) : Mono (CS.hs σ) (f_X6_row N σ x1) := by
  unfold f_X6_row
  exact (mono_ite (m_X6_row_30 N σ) (mono_ite (m_X6_row_30 N σ) (mono_ite (m_X6_row_30 N σ) (mono_ite (mono_oc (mono_some (Nat.le_refl _)) (fun a6 => (mono_some (Nat.le_refl _)))) mono_none))))
theorem m_X5_isLoop_40 (N : Nat) (σ : CS) : Mono (CS.hs σ) (f_X5_isLoop_40 N σ ) := by
  unfold f_X5_isLoop_40
  exact (mono_some (Nat.le_refl _))
theorem m_X5_isLoop (N : Nat) (σ : CS) (x0 : Nat) : Mono (CS.hs σ) (f_X5_isLoop N σ x0) := by
  unfold f_X5_isLoop
  exact (mono_ite (mono_ite (m_X5_isLoop_40 N σ) (mono_ite (m_X5_isLoop_40 N σ) (mono_ite (m_X5_isLoop_40 N σ) (mono_ite (m_X5_isLoop_40 N σ) (mono_some (Nat.le_refl _)))))) mono_none)
theorem m_X5_hasOneBody_37 (N : Nat) (σ : CS) : Mono (CS.hs σ) (f_X5_hasOneBody_37 N σ ) := by
  unfold f_X5_hasOneBody_37
  exact (mono_some (Nat.le_refl _))
theorem m_X5_hasOneBody (N : Nat) (σ : CS) (x0 : Nat) : Mono (CS.hs σ) (f_X5_hasOneBody N σ x0) := by
  unfold f_X5_hasOneBody
  exact (mono_ite (mono_bind (m_X5_isLoop N σ x0) (fun p3 => (mono_ite (mono_ite (mono_ite (m_X5_hasOneBody_37 N p3.2) (mono_ite (m_X5_hasOneBody_37 N p3.2) (mono_ite (m_X5_hasOneBody_37 N p3.2) (mono_some (Nat.le_refl _))))) mono_none) (m_X5_hasOneBody_37 N p3.2)))) mono_none)
theorem m_X6_pop (N : Nat) (σ : CS) : Mono (CS.hs σ) (f_X6_pop N σ) := by
  unfold f_X6_pop
  exact (mono_some (Nat.le_refl _))
theorem m_X7_endIf (N : Nat) (σ : CS) (x1 : Nat) : Mono (CS.hs σ) (f_X7_endIf N σ x1) := by
  unfold f_X7_endIf
  exact (mono_bind (m_X1_skip N σ 204) (fun p1 => (mono_ite (mono_ite (mono_bind (m_X0_aim N p1.2 (CS.o p1.2 x1 10)) (fun p23 => (mono_bind (m_X6_pop N (CS.setI p23.2 36 1)) (fun p27 => (mono_some (Nat.le_refl _)))))) mono_none) (mono_ite (mono_ite (mono_bind (m_X0_newTarget N (CS.setO (CS.setO (CS.setO p1.2 x1 0 204) x1 5 0) x1 6 (p1.2.i 36))) (fun p8 => (mono_ite (mono_bind (m_X0_add N (CS.setO p8.2 x1 9 p8.1) 30 (CS.o (CS.setO p8.2 x1 9 p8.1) x1 9)) (fun p13 => (mono_ite (mono_bind (m_X0_aim N p13.2 (CS.o p13.2 x1 10)) (fun p18 => (mono_some (Nat.le_refl _)))) mono_none))) mono_none))) mono_none) mono_none))))
theorem m_X6_jumpTo (N : Nat) (σ : CS) (x0 : Nat) (x1 : Int32) : Mono (CS.hs σ) (f_X6_jumpTo N σ x0 x1) := by
  unfold f_X6_jumpTo
  exact (mono_ite (mono_ite (mono_some (Nat.le_refl _)) (mono_some (Nat.le_refl _))) mono_none)
theorem mb_X6_isGoneTo_5 (N : Nat) (K : CS → Nat → Int32 → Int32 → Option (Int32 × CS)) (hMK : ∀ (σ : CS) (x1 : Nat) (x2 : Int32) (x3 : Int32), Mono (CS.hs σ) (K σ x1 x2 x3)) (σ : CS) (x1 : Nat) (x2 : Int32) (x3 : Int32) : Mono (CS.hs σ) (b_X6_isGoneTo_5 N K σ x1 x2 x3) := by
  unfold b_X6_isGoneTo_5
  exact (mono_ite (mono_some (Nat.le_refl _)) (mono_bind (m_X6_jumpTo N σ x1 x2) (fun p4 => (mono_ite (mono_some (Nat.le_refl _)) (hMK p4.2 x1 x2 (x3 + 1))))))
theorem m_X6_isGoneTo_5 (N : Nat) : ∀ (n : Nat) (σ : CS) (x1 : Nat) (x2 : Int32) (x3 : Int32), Mono (CS.hs σ) (f_X6_isGoneTo_5 N n σ x1 x2 x3)
  | 0, _, _, _, _ => mono_none
  | n+1, σ, x1, x2, x3 => mb_X6_isGoneTo_5 N (f_X6_isGoneTo_5 N n) (fun σ x1 x2 x3 => m_X6_isGoneTo_5 N n σ x1 x2 x3) σ x1 x2 x3
theorem m_X6_isGoneTo (N : Nat) (σ : CS) (x1 : Nat) (x2 : Int32) : Mono (CS.hs σ) (f_X6_isGoneTo N σ x1 x2) := by
  unfold f_X6_isGoneTo
  exact (mono_ite (m_X6_isGoneTo_5 N N σ x1 x2 (CS.o σ x1 14)) mono_none)
theorem m_X1_conjunction_65 (N : Nat) (E1 : CS → Option (Unit × CS)) (E2 : CS → Option (Int32 × CS)) (hm1 : ∀ σ, Mono (CS.hs σ) (E1 σ)) (hm2 : ∀ σ, Mono (CS.hs σ) (E2 σ)) (σ : CS) (x2 : Int32) : Mono (CS.hs σ) (f_X1_conjunction_65 N E1 E2 σ x2) := by
  unfold f_X1_conjunction_65
  exact (mono_bind (m_X0_aim N σ x2) (fun p15 => (mono_some (Nat.le_refl _))))
theorem mb_X1_conjunction_27 (N : Nat) (E1 : CS → Option (Unit × CS)) (E2 : CS → Option (Int32 × CS)) (hm1 : ∀ σ, Mono (CS.hs σ) (E1 σ)) (hm2 : ∀ σ, Mono (CS.hs σ) (E2 σ)) (K : CS → Int32 → Int32 → Option (Int32 × CS)) (hMK : ∀ (σ : CS) (x2 : Int32) (x3 : Int32), Mono (CS.hs σ) (K σ x2 x3)) (σ : CS) (x2 : Int32) (x3 : Int32) : Mono (CS.hs σ) (b_X1_conjunction_27 N E1 E2 K σ x2 x3) := by
  unfold b_X1_conjunction_27
  exact (mono_ite (m_X1_conjunction_65 N E1 E2 hm1 hm2 σ x2) (mono_bind (m_X1_skip N σ 132) (fun p19 => (mono_ite (m_X1_conjunction_65 N E1 E2 hm1 hm2 p19.2 x2) (mono_bind (m_X0_add N p19.2 32 x2) (fun p24 => (mono_bind (hm2 p24.2) (fun p28 => (hMK p28.2 x2 (x3 + 1))))))))))
theorem m_X1_conjunction_27 (N : Nat) (E1 : CS → Option (Unit × CS)) (E2 : CS → Option (Int32 × CS)) (hm1 : ∀ σ, Mono (CS.hs σ) (E1 σ)) (hm2 : ∀ σ, Mono (CS.hs σ) (E2 σ)) : ∀ (n : Nat) (σ : CS) (x2 : Int32) (x3 : Int32), Mono (CS.hs σ) (f_X1_conjunction_27 N E1 E2 n σ x2 x3)
  | 0, _, _, _ => mono_none
  | n+1, σ, x2, x3 => mb_X1_conjunction_27 N E1 E2 hm1 hm2 (f_X1_conjunction_27 N E1 E2 n) (fun σ x2 x3 => m_X1_conjunction_27 N E1 E2 hm1 hm2 n σ x2 x3) σ x2 x3
theorem m_X1_conjunction (N : Nat) (E1 : CS → Option (Unit × CS)) (E2 : CS → Option (Int32 × CS)) (hm1 : ∀ σ, Mono (CS.hs σ) (E1 σ)) (hm2 : ∀ σ, Mono (CS.hs σ) (E2 σ)) (σ : CS) : Mono (CS.hs σ) (f_X1_conjunction N E1 E2 σ) := by
  unfold f_X1_conjunction
  exact (mono_bind (hm2 σ) (fun p1 => (mono_bind (m_X1_found N p1.2 132) (fun p5 => (mono_ite (mono_ite (mono_some (Nat.le_refl _)) mono_none) (mono_bind (m_X0_newTarget N p5.2) (fun p10 => (m_X1_conjunction_27 N E1 E2 hm1 hm2 N p10.2 p10.1 0))))))))
theorem m_X1_condition_65 (N : Nat) (E1 : CS → Option (Unit × CS)) (E2 : CS → Option (Int32 × CS)) (hm1 : ∀ σ, Mono (CS.hs σ) (E1 σ)) (hm2 : ∀ σ, Mono (CS.hs σ) (E2 σ)) (σ : CS) (x2 : Int32) : Mono (CS.hs σ) (f_X1_condition_65 N E1 E2 σ x2) := by
  unfold f_X1_condition_65
  exact (mono_bind (m_X0_aim N σ x2) (fun p15 => (mono_some (Nat.le_refl _))))
theorem mb_X1_condition_27 (N : Nat) (E1 : CS → Option (Unit × CS)) (E2 : CS → Option (Int32 × CS)) (hm1 : ∀ σ, Mono (CS.hs σ) (E1 σ)) (hm2 : ∀ σ, Mono (CS.hs σ) (E2 σ)) (K : CS → Int32 → Int32 → Option (Int32 × CS)) (hMK : ∀ (σ : CS) (x2 : Int32) (x3 : Int32), Mono (CS.hs σ) (K σ x2 x3)) (σ : CS) (x2 : Int32) (x3 : Int32) : Mono (CS.hs σ) (b_X1_condition_27 N E1 E2 K σ x2 x3) := by
  unfold b_X1_condition_27
  exact (mono_ite (m_X1_condition_65 N E1 E2 hm1 hm2 σ x2) (mono_bind (m_X1_skip N σ 133) (fun p19 => (mono_ite (m_X1_condition_65 N E1 E2 hm1 hm2 p19.2 x2) (mono_bind (m_X0_add N p19.2 33 x2) (fun p24 => (mono_bind (m_X1_conjunction N E1 E2 hm1 hm2 p24.2) (fun p28 => (hMK p28.2 x2 (x3 + 1))))))))))
theorem m_X1_condition_27 (N : Nat) (E1 : CS → Option (Unit × CS)) (E2 : CS → Option (Int32 × CS)) (hm1 : ∀ σ, Mono (CS.hs σ) (E1 σ)) (hm2 : ∀ σ, Mono (CS.hs σ) (E2 σ)) : ∀ (n : Nat) (σ : CS) (x2 : Int32) (x3 : Int32), Mono (CS.hs σ) (f_X1_condition_27 N E1 E2 n σ x2 x3)
  | 0, _, _, _ => mono_none
  | n+1, σ, x2, x3 => mb_X1_condition_27 N E1 E2 hm1 hm2 (f_X1_condition_27 N E1 E2 n) (fun σ x2 x3 => m_X1_condition_27 N E1 E2 hm1 hm2 n σ x2 x3) σ x2 x3
theorem m_X1_condition (N : Nat) (E1 : CS → Option (Unit × CS)) (E2 : CS → Option (Int32 × CS)) (hm1 : ∀ σ, Mono (CS.hs σ) (E1 σ)) (hm2 : ∀ σ, Mono (CS.hs σ) (E2 σ)) (σ : CS) : Mono (CS.hs σ) (f_X1_condition N E1 E2 σ) := by
  unfold f_X1_condition
  exact (mono_bind (m_X1_conjunction N E1 E2 hm1 hm2 σ) (fun p1 => (mono_bind (m_X1_found N p1.2 133) (fun p5 => (mono_ite (mono_ite (mono_some (Nat.le_refl _)) mono_none) (mono_bind (m_X0_newTarget N p5.2) (fun p10 => (m_X1_condition_27 N E1 E2 hm1 hm2 N p10.2 p10.1 0))))))))
theorem m_X7_conditionInside (N : Nat) (E1 : CS → Option (Unit × CS)) (E2 : CS → Option (Int32 × CS)) (hm1 : ∀ σ, Mono (CS.hs σ) (E1 σ)) (hm2 : ∀ σ, Mono (CS.hs σ) (E2 σ)) (σ : CS) : Mono (CS.hs σ) (f_X7_conditionInside N E1 E2 σ) := by
  unfold f_X7_conditionInside
  exact (mono_bind (m_X1_open N σ 40) (fun p1 => (mono_bind (m_X1_condition N E1 E2 hm1 hm2 p1.2) (fun p5 => (mono_bind (m_X1_close N p5.2 41) (fun p9 => (mono_ite (mono_some (Nat.le_refl _)) mono_none)))))))
theorem m_X7_endDo_25 (N : Nat) (E1 : CS → Option (Unit × CS)) (E2 : CS → Option (Int32 × CS)) (hm1 : ∀ σ, Mono (CS.hs σ) (E1 σ)) (hm2 : ∀ σ, Mono (CS.hs σ) (E2 σ)) (σ : CS) (x1 : Nat) (x2 : Int32) : Mono (CS.hs σ) (f_X7_endDo_25 N E1 E2 σ x1 x2) := by
  unfold f_X7_endDo_25
  exact (mono_bind (m_X1_expect N σ 205) (fun p2 => (mono_ite (mono_bind (m_X0_aim N p2.2 (CS.o p2.2 x1 10)) (fun p7 => (mono_bind (m_X7_conditionInside N E1 E2 hm1 hm2 p7.2) (fun p11 => (mono_bind (m_X1_expect N p11.2 59) (fun p15 => (mono_ite (mono_bind (m_X0_add N p15.2 31 (CS.o p15.2 x1 9)) (fun p20 => (mono_ite (mono_bind (m_X0_add N p20.2 30 (CS.o p20.2 x1 11)) (fun p25 => (mono_ite (mono_bind (m_X0_aim N p25.2 (CS.o p25.2 x1 9)) (fun p30 => (mono_ite (mono_bind (m_X6_isGoneTo N p30.2 x1 0) (fun p35 => (mono_ite (mono_some (Nat.le_refl _)) (mono_some (Nat.le_refl _))))) (mono_ite (mono_some (Nat.le_refl _)) (mono_bind (m_X6_isGoneTo N p30.2 x1 0) (fun p41 => (mono_ite (mono_some (Nat.le_refl _)) (mono_some (Nat.le_refl _))))))))) mono_none))) mono_none))) mono_none))))))) mono_none)))
theorem m_X7_endDo_19 (N : Nat) (E1 : CS → Option (Unit × CS)) (E2 : CS → Option (Int32 × CS)) (hm1 : ∀ σ, Mono (CS.hs σ) (E1 σ)) (hm2 : ∀ σ, Mono (CS.hs σ) (E2 σ)) (σ : CS) (x1 : Nat) : Mono (CS.hs σ) (f_X7_endDo_19 N E1 E2 σ x1) := by
  unfold f_X7_endDo_19
  exact (m_X7_endDo_25 N E1 E2 hm1 hm2 σ x1 1)
theorem m_X7_endDo (N : Nat) (E1 : CS → Option (Unit × CS)) (E2 : CS → Option (Int32 × CS)) (hm1 : ∀ σ, Mono (CS.hs σ) (E1 σ)) (hm2 : ∀ σ, Mono (CS.hs σ) (E2 σ)) (σ : CS) (x1 : Nat) : Mono (CS.hs σ) (f_X7_endDo N E1 E2 σ x1) := by
  unfold f_X7_endDo
  exact (mono_ite (mono_bind (m_X6_isGoneTo N σ x1 1) (fun p46 => (mono_ite (m_X7_endDo_25 N E1 E2 hm1 hm2 p46.2 x1 0) (m_X7_endDo_19 N E1 E2 hm1 hm2 p46.2 x1)))) (m_X7_endDo_19 N E1 E2 hm1 hm2 σ x1))
theorem m_X7_endBody_193 (N : Nat) (E1 : CS → Option (Unit × CS)) (E2 : CS → Option (Int32 × CS)) (hm1 : ∀ σ, Mono (CS.hs σ) (E1 σ)) (hm2 : ∀ σ, Mono (CS.hs σ) (E2 σ)) (σ : CS) (x1 : Nat) : Mono (CS.hs σ) (f_X7_endBody_193 N E1 E2 σ x1) := by
  unfold f_X7_endBody_193
  exact (mono_ite (mono_bind (m_X6_pop N (CS.setI σ 50 (CS.o σ x1 3))) (fun p14 => (mono_some (Nat.le_refl _)))) mono_none)
theorem m_X7_endBody_88 (N : Nat) (E1 : CS → Option (Unit × CS)) (E2 : CS → Option (Int32 × CS)) (hm1 : ∀ σ, Mono (CS.hs σ) (E1 σ)) (hm2 : ∀ σ, Mono (CS.hs σ) (E2 σ)) (σ : CS) (x1 : Nat) : Mono (CS.hs σ) (f_X7_endBody_88 N E1 E2 σ x1) := by
  unfold f_X7_endBody_88
  exact (m_X7_endBody_193 N E1 E2 hm1 hm2 σ x1)
theorem m_X7_endBody_130 (N : Nat) (E1 : CS → Option (Unit × CS)) (E2 : CS → Option (Int32 × CS)) (hm1 : ∀ σ, Mono (CS.hs σ) (E1 σ)) (hm2 : ∀ σ, Mono (CS.hs σ) (E2 σ)) (σ : CS) (x1 : Nat) : Mono (CS.hs σ) (f_X7_endBody_130 N E1 E2 σ x1) := by
  unfold f_X7_endBody_130
  exact (m_X7_endBody_193 N E1 E2 hm1 hm2 σ x1)
theorem m_X7_endBody (N : Nat) (E1 : CS → Option (Unit × CS)) (E2 : CS → Option (Int32 × CS)) (hm1 : ∀ σ, Mono (CS.hs σ) (E1 σ)) (hm2 : ∀ σ, Mono (CS.hs σ) (E2 σ)) (σ : CS) (x1 : Nat) : Mono (CS.hs σ) (f_X7_endBody N E1 E2 σ x1) := by
  unfold f_X7_endBody
  exact (mono_ite (mono_ite (mono_bind (m_X7_endIf N σ x1) (fun p3 => (mono_some (Nat.le_refl _)))) (mono_ite (mono_bind (m_X0_aim N σ (CS.o σ x1 9)) (fun p8 => (mono_ite (mono_ite (mono_ite (m_X7_endBody_88 N E1 E2 hm1 hm2 (CS.setI p8.2 36 0) x1) (m_X7_endBody_88 N E1 E2 hm1 hm2 (CS.setI p8.2 36 1) x1)) mono_none) (m_X7_endBody_88 N E1 E2 hm1 hm2 (CS.setI p8.2 36 1) x1)))) (mono_ite (mono_bind (m_X7_endDo N E1 E2 hm1 hm2 σ x1) (fun p21 => (m_X7_endBody_193 N E1 E2 hm1 hm2 p21.2 x1))) (mono_ite (mono_bind (m_X0_aim N σ (CS.o σ x1 9)) (fun p26 => (mono_ite (mono_bind (m_X6_isGoneTo N p26.2 x1 0) (fun p31 => (mono_ite (m_X7_endBody_130 N E1 E2 hm1 hm2 (CS.setI p31.2 36 0) x1) (m_X7_endBody_130 N E1 E2 hm1 hm2 (CS.setI p31.2 36 1) x1)))) (m_X7_endBody_130 N E1 E2 hm1 hm2 (CS.setI p26.2 36 1) x1)))) (mono_bind (m_X0_add N σ 30 (CS.o σ x1 10)) (fun p36 => (mono_ite (mono_bind (m_X0_aim N p36.2 (CS.o p36.2 x1 9)) (fun p41 => (mono_ite (mono_ite (m_X7_endBody_193 N E1 E2 hm1 hm2 (CS.setI p41.2 36 1) x1) (mono_bind (m_X6_isGoneTo N p41.2 x1 0) (fun p47 => (mono_ite (m_X7_endBody_193 N E1 E2 hm1 hm2 (CS.setI p47.2 36 0) x1) (m_X7_endBody_193 N E1 E2 hm1 hm2 (CS.setI p47.2 36 1) x1))))) mono_none))) mono_none))))))) mono_none)
theorem m_X7_notReached (N : Nat) (σ : CS) (x1 : Int32) : Mono (CS.hs σ) (f_X7_notReached N σ x1) := by
  unfold f_X7_notReached
  exact (mono_ite (mono_some (Nat.le_refl _)) (mono_some (Nat.le_refl _)))
theorem m_X4_isCaught (N : Nat) (σ : CS) (x1 : Int32) : Mono (CS.hs σ) (f_X4_isCaught N σ x1) := by
  unfold f_X4_isCaught
  exact (mono_ite (mono_some (Nat.le_refl _)) (mono_some (Nat.le_refl _)))
theorem m_X7_change_63 (N : Nat) (E1 : CS → Option (Unit × CS)) (E2 : CS → Option (Int32 × CS)) (hm1 : ∀ σ, Mono (CS.hs σ) (E1 σ)) (hm2 : ∀ σ, Mono (CS.hs σ) (E2 σ)) (σ : CS) (x3 : Int32) : Mono (CS.hs σ) (f_X7_change_63 N E1 E2 σ x3) := by
  unfold f_X7_change_63
  exact (mono_bind (m_X1_fail N σ 3 x3) (fun p11 => (mono_some (Nat.le_refl _))))
theorem m_X7_change_72 (N : Nat) (E1 : CS → Option (Unit × CS)) (E2 : CS → Option (Int32 × CS)) (hm1 : ∀ σ, Mono (CS.hs σ) (E1 σ)) (hm2 : ∀ σ, Mono (CS.hs σ) (E2 σ)) (σ : CS) (x5 : Int32) (x6 : Int32) : Mono (CS.hs σ) (f_X7_change_72 N E1 E2 σ x5 x6) := by
  unfold f_X7_change_72
  exact (mono_ite (mono_bind (m_X1_misplaced N σ) (fun p46 => (mono_some (Nat.le_refl _)))) (mono_bind (m_X1_skip N σ 135) (fun p17 => (mono_ite (mono_bind (m_X9_advance N p17.2) (fun p22 => (mono_bind (m_X1_expression N E1 E2 hm1 hm2 p22.2) (fun p26 => (mono_bind (m_X4_cellOf N p26.2 x5) (fun p30 => (mono_bind (m_X0_add N p30.2 2 p30.1) (fun p34 => (mono_some (Nat.le_refl _)))))))))) (mono_bind (m_X4_cellOf N p17.2 x5) (fun p38 => (mono_bind (m_X0_add N p38.2 3 p38.1) (fun p42 => (mono_some (Nat.le_refl _))))))))))
theorem m_X7_change_41 (N : Nat) (E1 : CS → Option (Unit × CS)) (E2 : CS → Option (Int32 × CS)) (hm1 : ∀ σ, Mono (CS.hs σ) (E1 σ)) (hm2 : ∀ σ, Mono (CS.hs σ) (E2 σ)) (σ : CS) (x3 : Int32) (x5 : Int32) (x6 : Int32) : Mono (CS.hs σ) (f_X7_change_41 N E1 E2 σ x3 x5 x6) := by
  unfold f_X7_change_41
  exact (mono_ite (m_X7_change_63 N E1 E2 hm1 hm2 σ x3) (mono_ite (m_X7_change_72 N E1 E2 hm1 hm2 σ x5 x6) (mono_bind (m_X4_isCaught N σ x5) (fun p50 => (mono_ite (m_X7_change_72 N E1 E2 hm1 hm2 p50.2 x5 x6) (m_X7_change_63 N E1 E2 hm1 hm2 p50.2 x3))))))
theorem m_X7_change_34 (N : Nat) (E1 : CS → Option (Unit × CS)) (E2 : CS → Option (Int32 × CS)) (hm1 : ∀ σ, Mono (CS.hs σ) (E1 σ)) (hm2 : ∀ σ, Mono (CS.hs σ) (E2 σ)) (σ : CS) (x3 : Int32) (x5 : Int32) : Mono (CS.hs σ) (f_X7_change_34 N E1 E2 σ x3 x5) := by
  unfold f_X7_change_34
  exact (m_X7_change_41 N E1 E2 hm1 hm2 σ x3 x5 1)
theorem m_X7_change_38 (N : Nat) (E1 : CS → Option (Unit × CS)) (E2 : CS → Option (Int32 × CS)) (hm1 : ∀ σ, Mono (CS.hs σ) (E1 σ)) (hm2 : ∀ σ, Mono (CS.hs σ) (E2 σ)) (σ : CS) (x3 : Int32) (x5 : Int32) : Mono (CS.hs σ) (f_X7_change_38 N E1 E2 σ x3 x5) := by
  unfold f_X7_change_38
  exact (m_X7_change_41 N E1 E2 hm1 hm2 σ x3 x5 0)
theorem m_X7_change (N : Nat) (E1 : CS → Option (Unit × CS)) (E2 : CS → Option (Int32 × CS)) (hm1 : ∀ σ, Mono (CS.hs σ) (E1 σ)) (hm2 : ∀ σ, Mono (CS.hs σ) (E2 σ)) (σ : CS) (x1 : Int64) (x3 : Int32) (x4 : Int32) : Mono (CS.hs σ) (f_X7_change N E1 E2 σ x1 x3 x4) := by
  unfold f_X7_change
  exact (mono_bind (m_X4_find N σ x1) (fun p1 => (mono_bind (m_X1_found N p1.2 61) (fun p5 => (mono_ite (mono_ite (m_X7_change_38 N E1 E2 hm1 hm2 p5.2 x3 p1.1) (mono_bind (m_X1_found N p5.2 135) (fun p56 => (mono_ite (m_X7_change_38 N E1 E2 hm1 hm2 p56.2 x3 p1.1) (m_X7_change_34 N E1 E2 hm1 hm2 p56.2 x3 p1.1))))) (m_X7_change_34 N E1 E2 hm1 hm2 p5.2 x3 p1.1))))))
theorem mb_X6_labelled_7 (N : Nat) (K : CS → Int64 → Int32 → Option (Int32 × CS)) (hMK : ∀ (σ : CS) (x1 : Int64) (x3 : Int32), Mono (CS.hs σ) (K σ x1 x3)) (σ : CS) (x1 : Int64) (x3 : Int32) : Mono (CS.hs σ) (b_X6_labelled_7 N K σ x1 x3) := by
  unfold b_X6_labelled_7
  exact (mono_ite (mono_some (Nat.le_refl _)) (mono_bind (m_X6_row N σ x3) (fun p2 => (mono_oc (hMK p2.2 x1 (x3 + (-1))) (fun a7 => (mono_ite (mono_ite (mono_ite (mono_some (Nat.le_refl _)) (hMK p2.2 x1 (x3 + (-1)))) (hMK p2.2 x1 (x3 + (-1)))) mono_none))))))
theorem m_X6_labelled_7 (N : Nat) : ∀ (n : Nat) (σ : CS) (x1 : Int64) (x3 : Int32), Mono (CS.hs σ) (f_X6_labelled_7 N n σ x1 x3)
  | 0, _, _, _ => mono_none
  | n+1, σ, x1, x3 => mb_X6_labelled_7 N (f_X6_labelled_7 N n) (fun σ x1 x3 => m_X6_labelled_7 N n σ x1 x3) σ x1 x3
theorem m_X6_labelled (N : Nat) (σ : CS) (x1 : Int64) : Mono (CS.hs σ) (f_X6_labelled N σ x1) := by
  unfold f_X6_labelled
  exact (m_X6_labelled_7 N N σ x1 ((σ.i 53) - 1))
theorem m_X7_named_73 (N : Nat) (E1 : CS → Option (Unit × CS)) (E2 : CS → Option (Int32 × CS)) (hm1 : ∀ σ, Mono (CS.hs σ) (E1 σ)) (hm2 : ∀ σ, Mono (CS.hs σ) (E2 σ)) (σ : CS) (x1 : Int64) : Mono (CS.hs σ) (f_X7_named_73 N E1 E2 σ x1) := by
  unfold f_X7_named_73
  exact (mono_bind (m_X9_advance N σ) (fun p15 => (mono_bind (m_X6_push N p15.2 303 (p15.2.i 38) (p15.2.i 50)) (fun p19 => (mono_oc mono_none (fun a24 => (mono_ite (mono_bind (m_X0_newTarget N (CS.setOl p19.2 a24 x1)) (fun p26 => (mono_ite (mono_some (Nat.le_refl _)) mono_none))) mono_none)))))))
theorem m_X7_named (N : Nat) (E1 : CS → Option (Unit × CS)) (E2 : CS → Option (Int32 × CS)) (hm1 : ∀ σ, Mono (CS.hs σ) (E1 σ)) (hm2 : ∀ σ, Mono (CS.hs σ) (E2 σ)) (σ : CS) : Mono (CS.hs σ) (f_X7_named N E1 E2 σ) := by
  unfold f_X7_named
  exact (mono_bind (m_X9_advance N σ) (fun p1 => (mono_bind (m_X1_found N p1.2 58) (fun p5 => (mono_ite (mono_bind (m_X0_add N p5.2 51 0) (fun p35 => (mono_bind (m_X7_change N E1 E2 hm1 hm2 p35.2 σ.l (σ.i 44) 1) (fun p39 => (mono_bind (m_X1_expect N p39.2 59) (fun p43 => (mono_some (Nat.le_refl _)))))))) (mono_bind (m_X6_labelled N p5.2 σ.l) (fun p10 => (mono_ite (m_X7_named_73 N E1 E2 hm1 hm2 p10.2 σ.l) (mono_bind (m_X1_fail N p10.2 4 (σ.i 44)) (fun p31 => (m_X7_named_73 N E1 E2 hm1 hm2 p31.2 σ.l)))))))))))
theorem m_X7_newName_56 (N : Nat) (σ : CS) (x1 : Int64) : Mono (CS.hs σ) (f_X7_newName_56 N σ x1) := by
  unfold f_X7_newName_56
  exact (mono_some (Nat.le_refl _))
theorem m_X7_newName (N : Nat) (σ : CS) : Mono (CS.hs σ) (f_X7_newName N σ) := by
  unfold f_X7_newName
  exact (mono_bind (m_X1_found N σ 2) (fun p1 => (mono_ite (mono_bind (m_X1_misplaced N p1.2) (fun p19 => (m_X7_newName_56 N p19.2 σ.l))) (mono_bind (m_X4_find N p1.2 σ.l) (fun p6 => (mono_ite (mono_bind (m_X9_advance N p6.2) (fun p11 => (m_X7_newName_56 N p11.2 σ.l))) (mono_bind (m_X1_fail N p6.2 4 (p6.2.i 44)) (fun p15 => (m_X7_newName_56 N p15.2 σ.l)))))))))
theorem m_X4_add (N : Nat) (σ : CS) (x1 : Int64) (x3 : Int32) (x4 : Int32) : Mono (CS.hs σ) (f_X4_add N σ x1 x3 x4) := by
  unfold f_X4_add
  exact (mono_ite (mono_some (Nat.le_refl _)) (mono_ite (mono_some (Nat.le_refl _)) mono_none))
theorem m_X7_tell (N : Nat) (σ : CS) (x1 : Int64) : Mono (CS.hs σ) (f_X7_tell N σ x1) := by
  unfold f_X7_tell
  exact (mono_bind (m_X0_newCells N σ 1) (fun p1 => (mono_bind (m_X4_add N p1.2 x1 p1.1 (-1)) (fun p5 => (mono_some (Nat.le_refl _))))))
theorem m_X7_define (N : Nat) (E1 : CS → Option (Unit × CS)) (E2 : CS → Option (Int32 × CS)) (hm1 : ∀ σ, Mono (CS.hs σ) (E1 σ)) (hm2 : ∀ σ, Mono (CS.hs σ) (E2 σ)) (σ : CS) (x1 : Int64) : Mono (CS.hs σ) (f_X7_define N E1 E2 σ x1) := by
  unfold f_X7_define
  exact (mono_bind (m_X1_expect N σ 61) (fun p1 => (mono_bind (m_X1_expression N E1 E2 hm1 hm2 p1.2) (fun p5 => (mono_bind (m_X7_tell N p5.2 x1) (fun p9 => (mono_bind (m_X0_add N p9.2 2 p9.1) (fun p13 => (mono_some (Nat.le_refl _))))))))))
theorem m_X6_loopBehind_47 (N : Nat) (σ : CS) : Mono (CS.hs σ) (f_X6_loopBehind_47 N σ ) := by
  unfold f_X6_loopBehind_47
  exact (mono_some (Nat.le_refl _))
theorem m_X6_loopBehind_32 (N : Nat) (σ : CS) (x2 : Int32) (x3 : Option Nat) : Mono (CS.hs σ) (f_X6_loopBehind_32 N σ x2 x3) := by
  unfold f_X6_loopBehind_32
  exact (mono_oc (m_X6_loopBehind_47 N σ) (fun a9 => (mono_ite (mono_bind (m_X5_isLoop N σ a9) (fun p12 => (mono_ite (m_X6_loopBehind_47 N p12.2) (mono_some (Nat.le_refl _))))) mono_none)))
theorem mb_X6_loopBehind_4 (N : Nat) (K : CS → Int32 → Option (Int32 × CS)) (hMK : ∀ (σ : CS) (x2 : Int32), Mono (CS.hs σ) (K σ x2)) (σ : CS) (x2 : Int32) : Mono (CS.hs σ) (b_X6_loopBehind_4 N K σ x2) := by
  unfold b_X6_loopBehind_4
  exact (mono_ite (mono_some (Nat.le_refl _)) (mono_bind (m_X6_row N σ x2) (fun p2 => (mono_oc (m_X6_loopBehind_32 N p2.2 x2 none) (fun a7 => (mono_ite (mono_ite (hMK p2.2 (x2 + 1)) (m_X6_loopBehind_32 N p2.2 x2 (some a7))) mono_none))))))
theorem m_X6_loopBehind_4 (N : Nat) : ∀ (n : Nat) (σ : CS) (x2 : Int32), Mono (CS.hs σ) (f_X6_loopBehind_4 N n σ x2)
  | 0, _, _ => mono_none
  | n+1, σ, x2 => mb_X6_loopBehind_4 N (f_X6_loopBehind_4 N n) (fun σ x2 => m_X6_loopBehind_4 N n σ x2) σ x2
theorem m_X6_loopBehind (N : Nat) (σ : CS) (x1 : Int32) : Mono (CS.hs σ) (f_X6_loopBehind N σ x1) := by
  unfold f_X6_loopBehind
  exact (m_X6_loopBehind_4 N N σ (x1 + 1))
theorem m_X7_labelTarget_63 (N : Nat) (σ : CS) (x2 : Int32) : Mono (CS.hs σ) (f_X7_labelTarget_63 N σ x2) := by
  unfold f_X7_labelTarget_63
  exact (mono_bind (m_X9_advance N σ) (fun p7 => (mono_some (Nat.le_refl _))))
theorem m_X7_labelTarget (N : Nat) (σ : CS) (x1 : Int32) : Mono (CS.hs σ) (f_X7_labelTarget N σ x1) := by
  unfold f_X7_labelTarget
  exact (mono_bind (m_X6_labelled N σ σ.l) (fun p1 => (mono_ite (mono_ite (m_X7_labelTarget_63 N p1.2 p1.1) (mono_bind (m_X6_loopBehind N p1.2 p1.1) (fun p11 => (mono_ite (m_X7_labelTarget_63 N p11.2 p11.1) (mono_bind (m_X1_fail N p11.2 5 (p11.2.i 44)) (fun p16 => (m_X7_labelTarget_63 N p16.2 p11.1))))))) (mono_bind (m_X1_fail N p1.2 3 (p1.2.i 44)) (fun p20 => (m_X7_labelTarget_63 N p20.2 p1.1))))))
theorem m_X6_nearest_46 (N : Nat) (σ : CS) (x2 : Int32) : Mono (CS.hs σ) (f_X6_nearest_46 N σ x2) := by
  unfold f_X6_nearest_46
  exact (mono_some (Nat.le_refl _))
theorem mb_X6_nearest_7 (N : Nat) (K : CS → Int32 → Int32 → Option (Int32 × CS)) (hMK : ∀ (σ : CS) (x1 : Int32) (x2 : Int32), Mono (CS.hs σ) (K σ x1 x2)) (σ : CS) (x1 : Int32) (x2 : Int32) : Mono (CS.hs σ) (b_X6_nearest_7 N K σ x1 x2) := by
  unfold b_X6_nearest_7
  exact (mono_ite (mono_some (Nat.le_refl _)) (mono_bind (m_X6_row N σ x2) (fun p2 => (mono_oc (hMK p2.2 x1 (x2 + (-1))) (fun a7 => (mono_ite (mono_bind (m_X5_isLoop N p2.2 a7) (fun p10 => (mono_ite (mono_ite (mono_ite (mono_ite (m_X6_nearest_46 N p10.2 x2) (hMK p10.2 x1 (x2 + (-1)))) mono_none) (hMK p10.2 x1 (x2 + (-1)))) (m_X6_nearest_46 N p10.2 x2)))) mono_none))))))
theorem m_X6_nearest_7 (N : Nat) : ∀ (n : Nat) (σ : CS) (x1 : Int32) (x2 : Int32), Mono (CS.hs σ) (f_X6_nearest_7 N n σ x1 x2)
  | 0, _, _, _ => mono_none
  | n+1, σ, x1, x2 => mb_X6_nearest_7 N (f_X6_nearest_7 N n) (fun σ x1 x2 => m_X6_nearest_7 N n σ x1 x2) σ x1 x2
theorem m_X6_nearest (N : Nat) (σ : CS) (x1 : Int32) : Mono (CS.hs σ) (f_X6_nearest N σ x1) := by
  unfold f_X6_nearest
  exact (m_X6_nearest_7 N N σ x1 ((σ.i 53) - 1))
theorem m_X6_addJump (N : Nat) (σ : CS) (x1 : Nat) (x2 : Int32) : Mono (CS.hs σ) (f_X6_addJump N σ x1 x2) := by
  unfold f_X6_addJump
  exact (mono_bind (m_X6_jumpTo N σ x1 x2) (fun p1 => (mono_some (Nat.le_refl _))))
theorem m_X7_leave (N : Nat) (σ : CS) (x1 : Int32) (x2 : Int32) : Mono (CS.hs σ) (f_X7_leave N σ x1 x2) := by
  unfold f_X7_leave
  exact (mono_ite (mono_bind (m_X0_add N σ 30 x1) (fun p6 => (mono_some (Nat.le_refl _)))) (mono_bind (m_X0_add N σ 60 ((x1 * 32) + x2)) (fun p2 => (mono_some (Nat.le_refl _)))))
theorem m_X7_jump_129 (N : Nat) (σ : CS) : Mono (CS.hs σ) (f_X7_jump_129 N σ ) := by
  unfold f_X7_jump_129
  exact (mono_some (Nat.le_refl _))
theorem m_X7_jump_72 (N : Nat) (σ : CS) (x1 : Int32) (x3 : Int32) : Mono (CS.hs σ) (f_X7_jump_72 N σ x1 x3) := by
  unfold f_X7_jump_72
  exact (mono_bind (m_X1_expect N σ 59) (fun p19 => (mono_bind (m_X6_row N p19.2 x3) (fun p23 => (mono_oc (m_X7_jump_129 N p23.2) (fun a28 => (mono_bind (m_X6_addJump N p23.2 a28 x1) (fun p29 => (mono_ite (mono_ite (mono_bind (m_X7_leave N p29.2 (CS.o p29.2 a28 9) (CS.o p29.2 a28 2)) (fun p35 => (m_X7_jump_129 N p35.2))) mono_none) (mono_ite (mono_bind (m_X7_leave N p29.2 (CS.o p29.2 a28 10) (CS.o p29.2 a28 2)) (fun p40 => (m_X7_jump_129 N p40.2))) mono_none))))))))))
theorem m_X7_jump (N : Nat) (σ : CS) : Mono (CS.hs σ) (f_X7_jump N σ) := by
  unfold f_X7_jump
  exact (mono_bind (m_X1_found N σ 209) (fun p1 => (mono_bind (m_X9_advance N (CS.setI p1.2 26 ((p1.2.i 26) + 1))) (fun p5 => (mono_bind (m_X1_found N p5.2 2) (fun p9 => (mono_ite (mono_bind (m_X6_nearest N p9.2 p1.1) (fun p14 => (mono_ite (m_X7_jump_72 N p14.2 p1.1 p14.1) (mono_bind (m_X1_fail N p14.2 5 (p1.2.i 44)) (fun p44 => (m_X7_jump_72 N p44.2 p1.1 p14.1)))))) (mono_bind (m_X7_labelTarget N p9.2 p1.1) (fun p48 => (m_X7_jump_72 N p48.2 p1.1 p48.1))))))))))
theorem m_X7_giveBack_22 (N : Nat) (E1 : CS → Option (Unit × CS)) (E2 : CS → Option (Int32 × CS)) (hm1 : ∀ σ, Mono (CS.hs σ) (E1 σ)) (hm2 : ∀ σ, Mono (CS.hs σ) (E2 σ)) (σ : CS) : Mono (CS.hs σ) (f_X7_giveBack_22 N E1 E2 σ ) := by
  unfold f_X7_giveBack_22
  exact (mono_bind (m_X9_advance N σ) (fun p2 => (mono_bind (m_X1_expression N E1 E2 hm1 hm2 p2.2) (fun p6 => (mono_bind (m_X0_add N p6.2 62 0) (fun p10 => (mono_bind (m_X1_expect N p10.2 59) (fun p14 => (mono_some (Nat.le_refl _))))))))))
theorem m_X7_giveBack (N : Nat) (E1 : CS → Option (Unit × CS)) (E2 : CS → Option (Int32 × CS)) (hm1 : ∀ σ, Mono (CS.hs σ) (E1 σ)) (hm2 : ∀ σ, Mono (CS.hs σ) (E2 σ)) (σ : CS) : Mono (CS.hs σ) (f_X7_giveBack N E1 E2 σ) := by
  unfold f_X7_giveBack
  exact (mono_ite (m_X7_giveBack_22 N E1 E2 hm1 hm2 σ) (mono_bind (m_X1_fail N σ 5 (σ.i 44)) (fun p18 => (m_X7_giveBack_22 N E1 E2 hm1 hm2 p18.2))))
theorem m_X7_yieldValue (N : Nat) (E1 : CS → Option (Unit × CS)) (E2 : CS → Option (Int32 × CS)) (hm1 : ∀ σ, Mono (CS.hs σ) (E1 σ)) (hm2 : ∀ σ, Mono (CS.hs σ) (E2 σ)) (σ : CS) : Mono (CS.hs σ) (f_X7_yieldValue N E1 E2 σ) := by
  unfold f_X7_yieldValue
  exact (mono_bind (m_X6_row N σ (σ.i 56)) (fun p1 => (mono_oc (mono_bind (m_X1_fail N p1.2 5 (p1.2.i 44)) (fun p7 => (mono_some (Nat.le_refl _)))) (fun a6 => (mono_bind (m_X9_advance N p1.2) (fun p11 => (mono_bind (m_X1_expression N E1 E2 hm1 hm2 p11.2) (fun p15 => (mono_ite (mono_bind (m_X0_add N p15.2 61 (((CS.o p15.2 a6 9) * 32) + (CS.o p15.2 a6 2))) (fun p20 => (mono_bind (m_X1_expect N p20.2 59) (fun p24 => (mono_some (Nat.le_refl _)))))) mono_none)))))))))
theorem m_X10_isKind_16 (N : Nat) (σ : CS) : Mono (CS.hs σ) (f_X10_isKind_16 N σ ) := by
  unfold f_X10_isKind_16
  exact (mono_some (Nat.le_refl _))
theorem m_X10_isKind (N : Nat) (σ : CS) (x1 : Int32) : Mono (CS.hs σ) (f_X10_isKind N σ x1) := by
  unfold f_X10_isKind
  exact (mono_ite (m_X10_isKind_16 N σ) (mono_ite (m_X10_isKind_16 N σ) (mono_some (Nat.le_refl _))))
theorem m_X4_frameOf (N : Nat) (σ : CS) (x1 : Int32) : Mono (CS.hs σ) (f_X4_frameOf N σ x1) := by
  unfold f_X4_frameOf
  exact (mono_some (Nat.le_refl _))
theorem m_X7_throwOne_152 (N : Nat) (E1 : CS → Option (Unit × CS)) (E2 : CS → Option (Int32 × CS)) (hm1 : ∀ σ, Mono (CS.hs σ) (E1 σ)) (hm2 : ∀ σ, Mono (CS.hs σ) (E2 σ)) (σ : CS) : Mono (CS.hs σ) (f_X7_throwOne_152 N E1 E2 σ ) := by
  unfold f_X7_throwOne_152
  exact (mono_bind (m_X1_expect N σ 59) (fun p19 => (mono_some (Nat.le_refl _))))
theorem m_X7_throwOne_108 (N : Nat) (E1 : CS → Option (Unit × CS)) (E2 : CS → Option (Int32 × CS)) (hm1 : ∀ σ, Mono (CS.hs σ) (E1 σ)) (hm2 : ∀ σ, Mono (CS.hs σ) (E2 σ)) (σ : CS) : Mono (CS.hs σ) (f_X7_throwOne_108 N E1 E2 σ ) := by
  unfold f_X7_throwOne_108
  exact (mono_bind (m_X1_fail N σ 3 (σ.i 44)) (fun p28 => (mono_some (Nat.le_refl _))))
theorem m_X7_throwOne_46 (N : Nat) (E1 : CS → Option (Unit × CS)) (E2 : CS → Option (Int32 × CS)) (hm1 : ∀ σ, Mono (CS.hs σ) (E1 σ)) (hm2 : ∀ σ, Mono (CS.hs σ) (E2 σ)) (σ : CS) (x1 : Int32) : Mono (CS.hs σ) (f_X7_throwOne_46 N E1 E2 σ x1) := by
  unfold f_X7_throwOne_46
  exact (mono_bind (m_X9_advance N σ) (fun p54 => (mono_bind (m_X1_expression N E1 E2 hm1 hm2 p54.2) (fun p58 => (mono_bind (m_X0_add N p58.2 63 x1) (fun p62 => (m_X7_throwOne_152 N E1 E2 hm1 hm2 p62.2)))))))
theorem m_X7_throwOne (N : Nat) (E1 : CS → Option (Unit × CS)) (E2 : CS → Option (Int32 × CS)) (hm1 : ∀ σ, Mono (CS.hs σ) (E1 σ)) (hm2 : ∀ σ, Mono (CS.hs σ) (E2 σ)) (σ : CS) : Mono (CS.hs σ) (f_X7_throwOne N E1 E2 σ) := by
  unfold f_X7_throwOne
  exact (mono_bind (m_X9_advance N σ) (fun p1 => (mono_bind (m_X1_found N p1.2 5) (fun p5 => (mono_ite (mono_bind (m_X1_found N p5.2 2) (fun p10 => (mono_ite (mono_bind (m_X1_misplaced N p10.2) (fun p15 => (m_X7_throwOne_152 N E1 E2 hm1 hm2 p15.2))) (mono_bind (m_X4_find N p10.2 p10.2.l) (fun p23 => (mono_ite (m_X7_throwOne_108 N E1 E2 hm1 hm2 p23.2) (mono_bind (m_X4_isCaught N p23.2 p23.1) (fun p32 => (mono_ite (m_X7_throwOne_108 N E1 E2 hm1 hm2 p32.2) (mono_bind (m_X4_frameOf N p32.2 p23.1) (fun p37 => (mono_bind (m_X0_add N p37.2 64 p37.1) (fun p41 => (mono_bind (m_X9_advance N p41.2) (fun p45 => (m_X7_throwOne_152 N E1 E2 hm1 hm2 p45.2)))))))))))))))) (mono_bind (m_X10_isKind N p5.2 (p5.2.i 45)) (fun p49 => (mono_ite (mono_bind (m_X1_fail N p49.2 3 (p49.2.i 44)) (fun p66 => (m_X7_throwOne_46 N E1 E2 hm1 hm2 p66.2 (p5.2.i 45)))) (m_X7_throwOne_46 N E1 E2 hm1 hm2 p49.2 (p5.2.i 45))))))))))
theorem m_X7_claim_74 (N : Nat) (E1 : CS → Option (Unit × CS)) (E2 : CS → Option (Int32 × CS)) (hm1 : ∀ σ, Mono (CS.hs σ) (E1 σ)) (hm2 : ∀ σ, Mono (CS.hs σ) (E2 σ)) (σ : CS) (x1 : Int32) : Mono (CS.hs σ) (f_X7_claim_74 N E1 E2 σ x1) := by
  unfold f_X7_claim_74
  exact (mono_bind (m_X0_add N σ 63 3) (fun p34 => (mono_bind (m_X0_aim N p34.2 x1) (fun p38 => (mono_bind (m_X1_expect N p38.2 59) (fun p42 => (mono_some (Nat.le_refl _))))))))
theorem m_X7_claim (N : Nat) (E1 : CS → Option (Unit × CS)) (E2 : CS → Option (Int32 × CS)) (hm1 : ∀ σ, Mono (CS.hs σ) (E1 σ)) (hm2 : ∀ σ, Mono (CS.hs σ) (E2 σ)) (σ : CS) : Mono (CS.hs σ) (f_X7_claim N E1 E2 σ) := by
  unfold f_X7_claim
  exact (mono_bind (m_X0_newTarget N σ) (fun p1 => (mono_bind (m_X9_advance N p1.2) (fun p5 => (mono_bind (m_X0_add N p5.2 35 p1.1) (fun p9 => (mono_bind (m_X1_condition N E1 E2 hm1 hm2 p9.2) (fun p13 => (mono_bind (m_X0_add N p13.2 5 0) (fun p17 => (mono_bind (m_X0_add N p17.2 31 p1.1) (fun p21 => (mono_bind (m_X1_skip N p21.2 58) (fun p25 => (mono_ite (mono_bind (m_X0_add N p25.2 0 0) (fun p30 => (m_X7_claim_74 N E1 E2 hm1 hm2 p30.2 p1.1))) (mono_bind (m_X1_expression N E1 E2 hm1 hm2 p25.2) (fun p46 => (m_X7_claim_74 N E1 E2 hm1 hm2 p46.2 p1.1))))))))))))))))))
theorem m_X7_beginIf (N : Nat) (E1 : CS → Option (Unit × CS)) (E2 : CS → Option (Int32 × CS)) (hm1 : ∀ σ, Mono (CS.hs σ) (E1 σ)) (hm2 : ∀ σ, Mono (CS.hs σ) (E2 σ)) (σ : CS) : Mono (CS.hs σ) (f_X7_beginIf N E1 E2 σ) := by
  unfold f_X7_beginIf
  exact (mono_bind (m_X0_newTarget N σ) (fun p1 => (mono_bind (m_X9_advance N p1.2) (fun p5 => (mono_bind (m_X7_conditionInside N E1 E2 hm1 hm2 p5.2) (fun p9 => (mono_bind (m_X0_add N p9.2 31 p1.1) (fun p13 => (mono_bind (m_X6_push N p13.2 203 (p13.2.i 38) (p13.2.i 50)) (fun p17 => (mono_oc mono_none (fun a22 => (mono_ite (mono_some (Nat.le_refl _)) mono_none)))))))))))))
theorem m_X7_pushLoop (N : Nat) (σ : CS) (x1 : Int32) (x2 : Int32) (x3 : Int32) : Mono (CS.hs σ) (f_X7_pushLoop N σ x1 x2 x3) := by
  unfold f_X7_pushLoop
  exact (mono_bind (m_X6_push N σ x1 (σ.i 38) (σ.i 50)) (fun p1 => (mono_oc mono_none (fun a6 => (mono_ite (mono_some (Nat.le_refl _)) mono_none)))))
theorem m_X7_beginWhile (N : Nat) (E1 : CS → Option (Unit × CS)) (E2 : CS → Option (Int32 × CS)) (hm1 : ∀ σ, Mono (CS.hs σ) (E1 σ)) (hm2 : ∀ σ, Mono (CS.hs σ) (E2 σ)) (σ : CS) : Mono (CS.hs σ) (f_X7_beginWhile N E1 E2 σ) := by
  unfold f_X7_beginWhile
  exact (mono_bind (m_X0_newTarget N σ) (fun p1 => (mono_bind (m_X0_newTarget N p1.2) (fun p5 => (mono_bind (m_X9_advance N p5.2) (fun p9 => (mono_bind (m_X0_aim N p9.2 p1.1) (fun p13 => (mono_bind (m_X7_conditionInside N E1 E2 hm1 hm2 p13.2) (fun p17 => (mono_bind (m_X0_add N p17.2 31 p5.1) (fun p21 => (mono_bind (m_X0_add N p21.2 51 0) (fun p25 => (mono_bind (m_X7_pushLoop N p25.2 205 p1.1 p5.1) (fun p29 => (mono_oc mono_none (fun a34 => (mono_ite (mono_ite (mono_some (Nat.le_refl _)) mono_none) mono_none)))))))))))))))))))
theorem m_X7_beginDo (N : Nat) (σ : CS) : Mono (CS.hs σ) (f_X7_beginDo N σ) := by
  unfold f_X7_beginDo
  exact (mono_bind (m_X0_newTarget N σ) (fun p1 => (mono_bind (m_X0_newTarget N p1.2) (fun p5 => (mono_bind (m_X7_pushLoop N p5.2 206 p1.1 p5.1) (fun p9 => (mono_oc (mono_bind (m_X0_newTarget N p9.2) (fun p15 => mono_none)) (fun a14 => (mono_bind (m_X0_newTarget N p9.2) (fun p19 => (mono_ite (mono_bind (m_X9_advance N (CS.setO p19.2 a14 11 p19.1)) (fun p24 => (mono_ite (mono_bind (m_X0_aim N p24.2 (CS.o p24.2 a14 11)) (fun p29 => (mono_bind (m_X0_add N p29.2 51 0) (fun p33 => (mono_some (Nat.le_refl _)))))) mono_none))) mono_none)))))))))))
theorem m_X7_throwNull (N : Nat) (σ : CS) : Mono (CS.hs σ) (f_X7_throwNull N σ) := by
  unfold f_X7_throwNull
  exact (mono_bind (m_X0_add N σ 0 0) (fun p1 => (mono_bind (m_X0_add N p1.2 63 1) (fun p5 => (mono_some (Nat.le_refl _))))))
theorem m_X7_rowValues_60 (N : Nat) (E1 : CS → Option (Unit × CS)) (E2 : CS → Option (Int32 × CS)) (hm1 : ∀ σ, Mono (CS.hs σ) (E1 σ)) (hm2 : ∀ σ, Mono (CS.hs σ) (E2 σ)) (σ : CS) (x1 : Int32) : Mono (CS.hs σ) (f_X7_rowValues_60 N E1 E2 σ x1) := by
  unfold f_X7_rowValues_60
  exact (mono_bind (m_X0_newCells N σ (2 + x1)) (fun p11 => (mono_bind (m_X0_add N p11.2 0 x1) (fun p15 => (mono_bind (m_X0_add N p15.2 36 p11.1) (fun p19 => (mono_some (Nat.le_refl _))))))))
theorem mb_X7_rowValues_31 (N : Nat) (E1 : CS → Option (Unit × CS)) (E2 : CS → Option (Int32 × CS)) (hm1 : ∀ σ, Mono (CS.hs σ) (E1 σ)) (hm2 : ∀ σ, Mono (CS.hs σ) (E2 σ)) (K : CS → Int32 → Int32 → Option (Int32 × CS)) (hMK : ∀ (σ : CS) (x1 : Int32) (x2 : Int32), Mono (CS.hs σ) (K σ x1 x2)) (σ : CS) (x1 : Int32) (x2 : Int32) : Mono (CS.hs σ) (b_X7_rowValues_31 N E1 E2 K σ x1 x2) := by
  unfold b_X7_rowValues_31
  exact (mono_ite (m_X7_rowValues_60 N E1 E2 hm1 hm2 σ x1) (mono_bind (m_X1_skip N σ 44) (fun p23 => (mono_ite (m_X7_rowValues_60 N E1 E2 hm1 hm2 p23.2 x1) (mono_bind (m_X1_expression N E1 E2 hm1 hm2 p23.2) (fun p28 => (hMK p28.2 (x1 + 1) (x2 + 1))))))))
theorem m_X7_rowValues_31 (N : Nat) (E1 : CS → Option (Unit × CS)) (E2 : CS → Option (Int32 × CS)) (hm1 : ∀ σ, Mono (CS.hs σ) (E1 σ)) (hm2 : ∀ σ, Mono (CS.hs σ) (E2 σ)) : ∀ (n : Nat) (σ : CS) (x1 : Int32) (x2 : Int32), Mono (CS.hs σ) (f_X7_rowValues_31 N E1 E2 n σ x1 x2)
  | 0, _, _, _ => mono_none
  | n+1, σ, x1, x2 => mb_X7_rowValues_31 N E1 E2 hm1 hm2 (f_X7_rowValues_31 N E1 E2 n) (fun σ x1 x2 => m_X7_rowValues_31 N E1 E2 hm1 hm2 n σ x1 x2) σ x1 x2
theorem m_X7_rowValues (N : Nat) (E1 : CS → Option (Unit × CS)) (E2 : CS → Option (Int32 × CS)) (hm1 : ∀ σ, Mono (CS.hs σ) (E1 σ)) (hm2 : ∀ σ, Mono (CS.hs σ) (E2 σ)) (σ : CS) : Mono (CS.hs σ) (f_X7_rowValues N E1 E2 σ) := by
  unfold f_X7_rowValues
  exact (mono_bind (m_X1_skip N σ 224) (fun p1 => (mono_ite (mono_bind (m_X1_expression N E1 E2 hm1 hm2 p1.2) (fun p6 => (m_X7_rowValues_31 N E1 E2 hm1 hm2 N p6.2 1 0))) (mono_bind (m_X7_throwNull N p1.2) (fun p32 => (mono_bind (m_X0_newCells N p32.2 2) (fun p36 => (mono_some (Nat.le_refl _)))))))))
theorem m_X7_rowHead (N : Nat) (E1 : CS → Option (Unit × CS)) (E2 : CS → Option (Int32 × CS)) (hm1 : ∀ σ, Mono (CS.hs σ) (E1 σ)) (hm2 : ∀ σ, Mono (CS.hs σ) (E2 σ)) (σ : CS) (x1 : Int64) : Mono (CS.hs σ) (f_X7_rowHead N E1 E2 σ x1) := by
  unfold f_X7_rowHead
  exact (mono_bind (m_X0_newTarget N σ) (fun p1 => (mono_bind (m_X0_newTarget N p1.2) (fun p5 => (mono_bind (m_X9_advance N p5.2) (fun p9 => (mono_bind (m_X7_rowValues N E1 E2 hm1 hm2 p9.2) (fun p13 => (mono_bind (m_X1_close N p13.2 41) (fun p17 => (mono_bind (m_X0_aim N p17.2 p1.1) (fun p21 => (mono_bind (m_X0_add N p21.2 37 p13.1) (fun p25 => (mono_bind (m_X0_add N p25.2 31 p5.1) (fun p29 => (mono_bind (m_X0_add N p29.2 51 0) (fun p33 => (mono_bind (m_X0_add N p33.2 38 p13.1) (fun p37 => (mono_bind (m_X7_tell N p37.2 x1) (fun p41 => (mono_bind (m_X0_add N p41.2 2 p41.1) (fun p45 => (mono_bind (m_X7_pushLoop N p45.2 304 p1.1 p5.1) (fun p49 => (mono_oc (mono_some (Nat.le_refl _)) (fun a54 => (mono_some (Nat.le_refl _))))))))))))))))))))))))))))))
theorem m_X7_changeHere (N : Nat) (E1 : CS → Option (Unit × CS)) (E2 : CS → Option (Int32 × CS)) (hm1 : ∀ σ, Mono (CS.hs σ) (E1 σ)) (hm2 : ∀ σ, Mono (CS.hs σ) (E2 σ)) (σ : CS) (x1 : Int32) : Mono (CS.hs σ) (f_X7_changeHere N E1 E2 σ x1) := by
  unfold f_X7_changeHere
  exact (mono_bind (m_X9_advance N σ) (fun p1 => (mono_bind (m_X7_change N E1 E2 hm1 hm2 p1.2 σ.l (σ.i 44) x1) (fun p5 => (mono_some (Nat.le_refl _))))))
theorem m_X7_forHead_113 (N : Nat) (E1 : CS → Option (Unit × CS)) (E2 : CS → Option (Int32 × CS)) (hm1 : ∀ σ, Mono (CS.hs σ) (E1 σ)) (hm2 : ∀ σ, Mono (CS.hs σ) (E2 σ)) (σ : CS) (x1 : Int32) (x2 : Int32) (x3 : Int32) (x4 : Int32) (x5 : Int32) : Mono (CS.hs σ) (f_X7_forHead_113 N E1 E2 σ x1 x2 x3 x4 x5) := by
  unfold f_X7_forHead_113
  exact (mono_bind (m_X1_close N σ 41) (fun p47 => (mono_bind (m_X0_add N p47.2 30 x1) (fun p51 => (mono_bind (m_X0_aim N p51.2 x3) (fun p55 => (mono_bind (m_X0_add N p55.2 51 0) (fun p59 => (mono_bind (m_X7_pushLoop N p59.2 207 x2 x4) (fun p63 => (mono_oc mono_none (fun a68 => (mono_ite (mono_ite (mono_some (Nat.le_refl _)) mono_none) mono_none)))))))))))))
theorem m_X7_forHead_76 (N : Nat) (E1 : CS → Option (Unit × CS)) (E2 : CS → Option (Int32 × CS)) (hm1 : ∀ σ, Mono (CS.hs σ) (E1 σ)) (hm2 : ∀ σ, Mono (CS.hs σ) (E2 σ)) (σ : CS) (x1 : Int32) (x2 : Int32) (x3 : Int32) (x4 : Int32) (x5 : Int32) : Mono (CS.hs σ) (f_X7_forHead_76 N E1 E2 σ x1 x2 x3 x4 x5) := by
  unfold f_X7_forHead_76
  exact (mono_bind (m_X0_add N σ 30 x3) (fun p30 => (mono_bind (m_X1_expect N p30.2 59) (fun p34 => (mono_bind (m_X0_aim N p34.2 x2) (fun p38 => (mono_bind (m_X1_found N p38.2 2) (fun p42 => (mono_ite (m_X7_forHead_113 N E1 E2 hm1 hm2 p42.2 x1 x2 x3 x4 x5) (mono_bind (m_X7_changeHere N E1 E2 hm1 hm2 p42.2 1) (fun p71 => (m_X7_forHead_113 N E1 E2 hm1 hm2 p71.2 x1 x2 x3 x4 x5))))))))))))
theorem m_X7_forHead (N : Nat) (E1 : CS → Option (Unit × CS)) (E2 : CS → Option (Int32 × CS)) (hm1 : ∀ σ, Mono (CS.hs σ) (E1 σ)) (hm2 : ∀ σ, Mono (CS.hs σ) (E2 σ)) (σ : CS) : Mono (CS.hs σ) (f_X7_forHead N E1 E2 σ) := by
  unfold f_X7_forHead
  exact (mono_bind (m_X0_newTarget N σ) (fun p1 => (mono_bind (m_X0_newTarget N p1.2) (fun p5 => (mono_bind (m_X0_newTarget N p5.2) (fun p9 => (mono_bind (m_X0_newTarget N p9.2) (fun p13 => (mono_bind (m_X1_expect N p13.2 59) (fun p17 => (mono_bind (m_X0_aim N p17.2 p1.1) (fun p21 => (mono_bind (m_X1_found N p21.2 59) (fun p25 => (mono_ite (mono_bind (m_X1_condition N E1 E2 hm1 hm2 p25.2) (fun p75 => (mono_bind (m_X0_add N p75.2 31 p13.1) (fun p79 => (m_X7_forHead_76 N E1 E2 hm1 hm2 p79.2 p1.1 p5.1 p9.1 p13.1 p75.1))))) (m_X7_forHead_76 N E1 E2 hm1 hm2 p25.2 p1.1 p5.1 p9.1 p13.1 1))))))))))))))))
theorem m_X7_beginFor_85 (N : Nat) (E1 : CS → Option (Unit × CS)) (E2 : CS → Option (Int32 × CS)) (hm1 : ∀ σ, Mono (CS.hs σ) (E1 σ)) (hm2 : ∀ σ, Mono (CS.hs σ) (E2 σ)) (σ : CS) (x1 : Int32) (x2 : Option Nat) : Mono (CS.hs σ) (f_X7_beginFor_85 N E1 E2 σ x1 x2) := by
  unfold f_X7_beginFor_85
  exact (mono_oc mono_none (fun a26 => (mono_ite (mono_some (Nat.le_refl _)) mono_none)))
theorem m_X7_beginFor_80 (N : Nat) (E1 : CS → Option (Unit × CS)) (E2 : CS → Option (Int32 × CS)) (hm1 : ∀ σ, Mono (CS.hs σ) (E1 σ)) (hm2 : ∀ σ, Mono (CS.hs σ) (E2 σ)) (σ : CS) (x1 : Int32) : Mono (CS.hs σ) (f_X7_beginFor_80 N E1 E2 σ x1) := by
  unfold f_X7_beginFor_80
  exact (mono_bind (m_X7_forHead N E1 E2 hm1 hm2 σ) (fun p19 => (mono_oc (m_X7_beginFor_85 N E1 E2 hm1 hm2 p19.2 x1 none) (fun a24 => (m_X7_beginFor_85 N E1 E2 hm1 hm2 p19.2 x1 (some a24))))))
theorem m_X7_beginFor_64 (N : Nat) (E1 : CS → Option (Unit × CS)) (E2 : CS → Option (Int32 × CS)) (hm1 : ∀ σ, Mono (CS.hs σ) (E1 σ)) (hm2 : ∀ σ, Mono (CS.hs σ) (E2 σ)) (σ : CS) (x1 : Int32) (x2 : Option Nat) : Mono (CS.hs σ) (f_X7_beginFor_64 N E1 E2 σ x1 x2) := by
  unfold f_X7_beginFor_64
  exact (m_X7_beginFor_85 N E1 E2 hm1 hm2 σ x1 x2)
theorem m_X7_beginFor (N : Nat) (E1 : CS → Option (Unit × CS)) (E2 : CS → Option (Int32 × CS)) (hm1 : ∀ σ, Mono (CS.hs σ) (E1 σ)) (hm2 : ∀ σ, Mono (CS.hs σ) (E2 σ)) (σ : CS) : Mono (CS.hs σ) (f_X7_beginFor N E1 E2 σ) := by
  unfold f_X7_beginFor
  exact (mono_bind (m_X9_advance N σ) (fun p1 => (mono_bind (m_X1_open N p1.2 40) (fun p5 => (mono_bind (m_X1_skip N p5.2 200) (fun p9 => (mono_ite (mono_bind (m_X1_found N p9.2 2) (fun p14 => (mono_ite (m_X7_beginFor_80 N E1 E2 hm1 hm2 p14.2 (σ.i 50)) (mono_bind (m_X7_changeHere N E1 E2 hm1 hm2 p14.2 0) (fun p28 => (m_X7_beginFor_80 N E1 E2 hm1 hm2 p28.2 (σ.i 50))))))) (mono_bind (m_X7_newName N p9.2) (fun p32 => (mono_bind (m_X1_found N p32.2 58) (fun p36 => (mono_ite (mono_bind (m_X7_define N E1 E2 hm1 hm2 p36.2 p32.1) (fun p41 => (mono_bind (m_X7_forHead N E1 E2 hm1 hm2 p41.2) (fun p45 => (mono_oc (m_X7_beginFor_64 N E1 E2 hm1 hm2 p45.2 (σ.i 50) none) (fun a50 => (m_X7_beginFor_64 N E1 E2 hm1 hm2 p45.2 (σ.i 50) (some a50)))))))) (mono_bind (m_X7_rowHead N E1 E2 hm1 hm2 p36.2 p32.1) (fun p51 => (mono_oc (m_X7_beginFor_64 N E1 E2 hm1 hm2 p51.2 (σ.i 50) none) (fun a56 => (m_X7_beginFor_64 N E1 E2 hm1 hm2 p51.2 (σ.i 50) (some a56))))))))))))))))))
theorem m_X7_beginLock_58 (N : Nat) (σ : CS) : Mono (CS.hs σ) (f_X7_beginLock_58 N σ ) := by
  unfold f_X7_beginLock_58
  exact (mono_bind (m_X1_close N σ 41) (fun p22 => (mono_bind (m_X1_open N p22.2 123) (fun p26 => (mono_bind (m_X6_push N p26.2 212 (p26.2.i 38) (p26.2.i 50)) (fun p30 => (mono_oc (mono_bind (m_X0_newTarget N p30.2) (fun p36 => mono_none)) (fun a35 => (mono_bind (m_X0_newTarget N p30.2) (fun p40 => (mono_ite (mono_some (Nat.le_refl _)) mono_none)))))))))))
theorem m_X7_beginLock (N : Nat) (σ : CS) : Mono (CS.hs σ) (f_X7_beginLock N σ) := by
  unfold f_X7_beginLock
  exact (mono_bind (m_X9_advance N σ) (fun p1 => (mono_bind (m_X1_open N p1.2 40) (fun p5 => (mono_bind (m_X1_found N p5.2 3) (fun p9 => (mono_ite (mono_bind (m_X1_expect N p9.2 224) (fun p14 => (mono_bind (m_X7_throwNull N p14.2) (fun p18 => (m_X7_beginLock_58 N p18.2))))) (mono_bind (m_X0_add N p9.2 53 (p9.2.i 45)) (fun p45 => (mono_bind (m_X9_advance N p45.2) (fun p49 => (m_X7_beginLock_58 N p49.2))))))))))))
theorem m_X7_beginSwitch (N : Nat) (E1 : CS → Option (Unit × CS)) (E2 : CS → Option (Int32 × CS)) (hm1 : ∀ σ, Mono (CS.hs σ) (E1 σ)) (hm2 : ∀ σ, Mono (CS.hs σ) (E2 σ)) (σ : CS) : Mono (CS.hs σ) (f_X7_beginSwitch N E1 E2 σ) := by
  unfold f_X7_beginSwitch
  exact (mono_bind (m_X9_advance N σ) (fun p1 => (mono_bind (m_X1_open N p1.2 40) (fun p5 => (mono_bind (m_X1_expression N E1 E2 hm1 hm2 p5.2) (fun p9 => (mono_bind (m_X1_close N p9.2 41) (fun p13 => (mono_bind (m_X1_open N p13.2 123) (fun p17 => (mono_bind (m_X6_push N p17.2 218 (p17.2.i 38) (p17.2.i 50)) (fun p21 => (mono_oc (mono_bind (m_X0_newTarget N p21.2) (fun p27 => mono_none)) (fun a26 => (mono_bind (m_X0_newTarget N p21.2) (fun p31 => (mono_ite (mono_bind (m_X0_newTarget N (CS.setO p31.2 a26 10 p31.1)) (fun p36 => (mono_ite (mono_bind (m_X0_add N (CS.setO (CS.setO p36.2 a26 9 p36.1) a26 13 (p36.2.i 22)) 30 (CS.o (CS.setO (CS.setO p36.2 a26 9 p36.1) a26 13 (p36.2.i 22)) a26 10)) (fun p41 => (mono_some (Nat.le_refl _)))) mono_none))) mono_none)))))))))))))))))
theorem m_X7_openResource (N : Nat) (σ : CS) : Mono (CS.hs σ) (f_X7_openResource N σ) := by
  unfold f_X7_openResource
  exact (mono_bind (m_X1_found N σ 4) (fun p1 => (mono_ite (mono_bind (m_X1_misplaced N p1.2) (fun p14 => (mono_some (Nat.le_refl _)))) (mono_bind (m_X0_add N p1.2 55 (p1.2.i 45)) (fun p6 => (mono_bind (m_X9_advance N p6.2) (fun p10 => (mono_some (Nat.le_refl _)))))))))
theorem m_X7_beginTry_132 (N : Nat) (σ : CS) : Mono (CS.hs σ) (f_X7_beginTry_132 N σ ) := by
  unfold f_X7_beginTry_132
  exact (mono_bind (m_X1_open N σ 123) (fun p40 => (mono_some (Nat.le_refl _))))
theorem mb_X7_beginTry_106 (N : Nat) (K : CS → Int32 → Option (Unit × CS)) (hMK : ∀ (σ : CS) (x2 : Int32), Mono (CS.hs σ) (K σ x2)) (σ : CS) (x2 : Int32) : Mono (CS.hs σ) (b_X7_beginTry_106 N K σ x2) := by
  unfold b_X7_beginTry_106
  exact (mono_ite (m_X7_beginTry_132 N σ) (mono_bind (m_X1_skip N σ 44) (fun p50 => (mono_ite (m_X7_beginTry_132 N p50.2) (mono_bind (m_X7_openResource N p50.2) (fun p55 => (hMK p55.2 (x2 + 1))))))))
theorem m_X7_beginTry_106 (N : Nat) : ∀ (n : Nat) (σ : CS) (x2 : Int32), Mono (CS.hs σ) (f_X7_beginTry_106 N n σ x2)
  | 0, _, _ => mono_none
  | n+1, σ, x2 => mb_X7_beginTry_106 N (f_X7_beginTry_106 N n) (fun σ x2 => m_X7_beginTry_106 N n σ x2) σ x2
theorem m_X7_beginTry (N : Nat) (σ : CS) : Mono (CS.hs σ) (f_X7_beginTry N σ) := by
  unfold f_X7_beginTry
  exact (mono_bind (m_X6_push N σ 213 (σ.i 38) (σ.i 50)) (fun p1 => (mono_oc (mono_bind (m_X0_newTarget N p1.2) (fun p7 => mono_none)) (fun a6 => (mono_bind (m_X0_newTarget N p1.2) (fun p11 => (mono_ite (mono_bind (m_X0_newTarget N (CS.setO p11.2 a6 10 p11.1)) (fun p16 => (mono_ite (mono_bind (m_X0_newTarget N (CS.setO p16.2 a6 11 p16.1)) (fun p21 => (mono_ite (mono_bind (m_X9_advance N (CS.setO p21.2 a6 9 p21.1)) (fun p26 => (mono_ite (mono_bind (m_X0_add N p26.2 54 (CS.o p26.2 a6 10)) (fun p31 => (mono_bind (m_X1_skip N (CS.setI p31.2 38 ((p31.2.i 38) + 1)) 214) (fun p35 => (mono_ite (m_X7_beginTry_132 N p35.2) (mono_ite (mono_bind (m_X7_openResource N (CS.setO p35.2 a6 8 1)) (fun p45 => (m_X7_beginTry_106 N N p45.2 0))) mono_none)))))) mono_none))) mono_none))) mono_none))) mono_none)))))))
theorem m_X7_compound (N : Nat) (E1 : CS → Option (Unit × CS)) (E2 : CS → Option (Int32 × CS)) (hm1 : ∀ σ, Mono (CS.hs σ) (E1 σ)) (hm2 : ∀ σ, Mono (CS.hs σ) (E2 σ)) (σ : CS) : Mono (CS.hs σ) (f_X7_compound N E1 E2 σ) := by
  unfold f_X7_compound
  exact (mono_ite (mono_bind (m_X7_beginIf N E1 E2 hm1 hm2 σ) (fun p2 => (mono_some (Nat.le_refl _)))) (mono_ite (mono_bind (m_X1_misplaced N σ) (fun p7 => (mono_some (Nat.le_refl _)))) (mono_ite (mono_bind (m_X7_beginWhile N E1 E2 hm1 hm2 σ) (fun p12 => (mono_some (Nat.le_refl _)))) (mono_ite (mono_bind (m_X7_beginDo N σ) (fun p17 => (mono_some (Nat.le_refl _)))) (mono_ite (mono_bind (m_X7_beginFor N E1 E2 hm1 hm2 σ) (fun p22 => (mono_some (Nat.le_refl _)))) (mono_ite (mono_bind (m_X1_misplaced N σ) (fun p27 => (mono_some (Nat.le_refl _)))) (mono_ite (mono_bind (m_X1_misplaced N σ) (fun p32 => (mono_some (Nat.le_refl _)))) (mono_ite (mono_bind (m_X1_misplaced N σ) (fun p37 => (mono_some (Nat.le_refl _)))) (mono_ite (mono_bind (m_X1_misplaced N σ) (fun p42 => (mono_some (Nat.le_refl _)))) (mono_ite (mono_bind (m_X7_beginLock N σ) (fun p47 => (mono_some (Nat.le_refl _)))) (mono_ite (mono_bind (m_X7_beginTry N σ) (fun p52 => (mono_some (Nat.le_refl _)))) (mono_ite (mono_bind (m_X1_misplaced N σ) (fun p57 => (mono_some (Nat.le_refl _)))) (mono_ite (mono_bind (m_X1_misplaced N σ) (fun p62 => (mono_some (Nat.le_refl _)))) (mono_ite (mono_bind (m_X1_misplaced N σ) (fun p67 => (mono_some (Nat.le_refl _)))) (mono_ite (mono_bind (m_X1_misplaced N σ) (fun p72 => (mono_some (Nat.le_refl _)))) (mono_ite (mono_bind (m_X7_beginSwitch N E1 E2 hm1 hm2 σ) (fun p77 => (mono_some (Nat.le_refl _)))) (mono_bind (m_X1_misplaced N σ) (fun p81 => (mono_some (Nat.le_refl _))))))))))))))))))))
theorem m_X7_plain (N : Nat) (E1 : CS → Option (Unit × CS)) (E2 : CS → Option (Int32 × CS)) (hm1 : ∀ σ, Mono (CS.hs σ) (E1 σ)) (hm2 : ∀ σ, Mono (CS.hs σ) (E2 σ)) (σ : CS) : Mono (CS.hs σ) (f_X7_plain N E1 E2 σ) := by
  unfold f_X7_plain
  exact (mono_ite (mono_bind (m_X9_advance N σ) (fun p2 => (mono_some (Nat.le_refl _)))) (mono_ite (mono_bind (m_X9_advance N σ) (fun p7 => (mono_bind (m_X7_newName N p7.2) (fun p11 => (mono_bind (m_X7_define N E1 E2 hm1 hm2 p11.2 p11.1) (fun p15 => (mono_bind (m_X1_expect N p15.2 59) (fun p19 => (mono_some (Nat.le_refl _)))))))))) (mono_ite (mono_bind (m_X9_advance N σ) (fun p24 => (mono_bind (m_X7_newName N p24.2) (fun p28 => (mono_bind (m_X7_define N E1 E2 hm1 hm2 p28.2 p28.1) (fun p32 => (mono_bind (m_X1_expect N p32.2 59) (fun p36 => (mono_some (Nat.le_refl _)))))))))) (mono_ite (mono_bind (m_X9_advance N σ) (fun p41 => (mono_bind (m_X1_expression N E1 E2 hm1 hm2 p41.2) (fun p45 => (mono_bind (m_X0_add N p45.2 52 0) (fun p49 => (mono_bind (m_X1_expect N p49.2 59) (fun p53 => (mono_some (Nat.le_refl _)))))))))) (mono_ite (mono_bind (m_X7_jump N σ) (fun p58 => (mono_some (Nat.le_refl _)))) (mono_ite (mono_bind (m_X7_jump N σ) (fun p63 => (mono_some (Nat.le_refl _)))) (mono_ite (mono_bind (m_X7_giveBack N E1 E2 hm1 hm2 σ) (fun p68 => (mono_some (Nat.le_refl _)))) (mono_ite (mono_bind (m_X7_throwOne N E1 E2 hm1 hm2 σ) (fun p73 => (mono_some (Nat.le_refl _)))) (mono_ite (mono_bind (m_X7_claim N E1 E2 hm1 hm2 σ) (fun p78 => (mono_some (Nat.le_refl _)))) (mono_ite (mono_bind (m_X7_yieldValue N E1 E2 hm1 hm2 σ) (fun p83 => (mono_some (Nat.le_refl _)))) (mono_bind (m_X7_compound N E1 E2 hm1 hm2 σ) (fun p87 => (mono_some (Nat.le_refl _))))))))))))))
theorem m_X7_statement_122 (N : Nat) (E1 : CS → Option (Unit × CS)) (E2 : CS → Option (Int32 × CS)) (hm1 : ∀ σ, Mono (CS.hs σ) (E1 σ)) (hm2 : ∀ σ, Mono (CS.hs σ) (E2 σ)) (σ : CS) : Mono (CS.hs σ) (f_X7_statement_122 N E1 E2 σ ) := by
  unfold f_X7_statement_122
  exact (mono_bind (m_X0_add N σ 51 0) (fun p13 => (mono_bind (m_X7_plain N E1 E2 hm1 hm2 p13.2) (fun p17 => (mono_some (Nat.le_refl _))))))
theorem m_X7_statement_115 (N : Nat) (E1 : CS → Option (Unit × CS)) (E2 : CS → Option (Int32 × CS)) (hm1 : ∀ σ, Mono (CS.hs σ) (E1 σ)) (hm2 : ∀ σ, Mono (CS.hs σ) (E2 σ)) (σ : CS) : Mono (CS.hs σ) (f_X7_statement_115 N E1 E2 σ ) := by
  unfold f_X7_statement_115
  exact (mono_bind (m_X1_misplaced N σ) (fun p26 => (mono_some (Nat.le_refl _))))
theorem m_X7_statement_18 (N : Nat) (E1 : CS → Option (Unit × CS)) (E2 : CS → Option (Int32 × CS)) (hm1 : ∀ σ, Mono (CS.hs σ) (E1 σ)) (hm2 : ∀ σ, Mono (CS.hs σ) (E2 σ)) (σ : CS) (x1 : Int32) : Mono (CS.hs σ) (f_X7_statement_18 N E1 E2 σ x1) := by
  unfold f_X7_statement_18
  exact (mono_bind (m_X1_found N (CS.setI (CS.setI σ 36 1) 24 ((σ.i 24) + 1)) 2) (fun p2 => (mono_ite (mono_bind (m_X1_found N p2.2 123) (fun p7 => (mono_ite (mono_ite (m_X7_statement_122 N E1 E2 hm1 hm2 p7.2) (mono_bind (m_X1_found N p7.2 200) (fun p21 => (mono_ite (mono_bind (m_X1_found N p21.2 201) (fun p30 => (mono_ite (m_X7_statement_122 N E1 E2 hm1 hm2 p30.2) (m_X7_statement_115 N E1 E2 hm1 hm2 p30.2)))) (m_X7_statement_115 N E1 E2 hm1 hm2 p21.2))))) (mono_bind (m_X1_open N p7.2 123) (fun p35 => (mono_bind (m_X6_push N p35.2 301 (p35.2.i 38) (p35.2.i 50)) (fun p39 => (mono_oc (mono_some (Nat.le_refl _)) (fun a44 => (mono_some (Nat.le_refl _))))))))))) (mono_bind (m_X7_named N E1 E2 hm1 hm2 p2.2) (fun p45 => (mono_some (Nat.le_refl _)))))))
theorem m_X7_statement (N : Nat) (E1 : CS → Option (Unit × CS)) (E2 : CS → Option (Int32 × CS)) (hm1 : ∀ σ, Mono (CS.hs σ) (E1 σ)) (hm2 : ∀ σ, Mono (CS.hs σ) (E2 σ)) (σ : CS) (x1 : Int32) : Mono (CS.hs σ) (f_X7_statement N E1 E2 σ x1) := by
  unfold f_X7_statement
  exact (mono_ite (mono_bind (m_X7_notReached N σ (σ.i 44)) (fun p49 => (m_X7_statement_18 N E1 E2 hm1 hm2 p49.2 x1))) (m_X7_statement_18 N E1 E2 hm1 hm2 σ x1))
theorem m_X7_bodyTurn (N : Nat) (E1 : CS → Option (Unit × CS)) (E2 : CS → Option (Int32 × CS)) (hm1 : ∀ σ, Mono (CS.hs σ) (E1 σ)) (hm2 : ∀ σ, Mono (CS.hs σ) (E2 σ)) (σ : CS) (x1 : Nat) : Mono (CS.hs σ) (f_X7_bodyTurn N E1 E2 σ x1) := by
  unfold f_X7_bodyTurn
  exact (mono_ite (mono_ite (mono_bind (m_X7_statement N E1 E2 hm1 hm2 (CS.setO σ x1 5 1) 1) (fun p3 => (mono_some (Nat.le_refl _)))) (mono_bind (m_X7_endBody N E1 E2 hm1 hm2 σ x1) (fun p7 => (mono_some (Nat.le_refl _))))) mono_none)
theorem m_X10_isUnder_38 (N : Nat) (σ : CS) : Mono (CS.hs σ) (f_X10_isUnder_38 N σ ) := by
  unfold f_X10_isUnder_38
  exact (mono_some (Nat.le_refl _))
theorem mb_X10_isUnder_5 (N : Nat) (K : CS → Int32 → Int32 → Int32 → Option (Int32 × CS)) (hMK : ∀ (σ : CS) (x2 : Int32) (x3 : Int32) (x4 : Int32), Mono (CS.hs σ) (K σ x2 x3 x4)) (σ : CS) (x2 : Int32) (x3 : Int32) (x4 : Int32) : Mono (CS.hs σ) (b_X10_isUnder_5 N K σ x2 x3 x4) := by
  unfold b_X10_isUnder_5
  exact (mono_ite (m_X10_isUnder_38 N σ) (mono_ite (m_X10_isUnder_38 N σ) (mono_ite (mono_some (Nat.le_refl _)) (hMK σ x2 (gAt (σ.a 9) 12 x3) (x4 + 1)))))
theorem m_X10_isUnder_5 (N : Nat) : ∀ (n : Nat) (σ : CS) (x2 : Int32) (x3 : Int32) (x4 : Int32), Mono (CS.hs σ) (f_X10_isUnder_5 N n σ x2 x3 x4)
  | 0, _, _, _, _ => mono_none
  | n+1, σ, x2, x3, x4 => mb_X10_isUnder_5 N (f_X10_isUnder_5 N n) (fun σ x2 x3 x4 => m_X10_isUnder_5 N n σ x2 x3 x4) σ x2 x3 x4
theorem m_X10_isUnder (N : Nat) (σ : CS) (x1 : Int32) (x2 : Int32) : Mono (CS.hs σ) (f_X10_isUnder N σ x1 x2) := by
  unfold f_X10_isUnder
  exact (m_X10_isUnder_5 N N σ x2 x1 0)
theorem mb_X7_caughtKind_47 (N : Nat) (K : CS → Nat → Int32 → Int32 → Int32 → Option (Unit × CS)) (hMK : ∀ (σ : CS) (x1 : Nat) (x2 : Int32) (x3 : Int32) (x4 : Int32), Mono (CS.hs σ) (K σ x1 x2 x3 x4)) (σ : CS) (x1 : Nat) (x2 : Int32) (x3 : Int32) (x4 : Int32) : Mono (CS.hs σ) (b_X7_caughtKind_47 N K σ x1 x2 x3 x4) := by
  unfold b_X7_caughtKind_47
  exact (mono_ite (mono_ite (mono_bind (m_X0_add N (CS.setO σ x1 12 ((CS.o σ x1 12) ||| ((1 : Int32) <<< (x3 &&& 31)))) 56 ((x2 * 16) + x3)) (fun p13 => (mono_bind (m_X9_advance N p13.2) (fun p17 => (mono_some (Nat.le_refl _)))))) mono_none) (mono_ite (mono_ite (mono_bind (m_X10_isUnder N σ x3 x4) (fun p23 => (mono_ite (hMK p23.2 x1 x2 x3 (x4 + 1)) (mono_bind (m_X1_fail N p23.2 6 (p23.2.i 44)) (fun p28 => (hMK p28.2 x1 x2 x3 (x4 + 1))))))) (hMK σ x1 x2 x3 (x4 + 1))) mono_none))
theorem m_X7_caughtKind_47 (N : Nat) : ∀ (n : Nat) (σ : CS) (x1 : Nat) (x2 : Int32) (x3 : Int32) (x4 : Int32), Mono (CS.hs σ) (f_X7_caughtKind_47 N n σ x1 x2 x3 x4)
  | 0, _, _, _, _, _ => mono_none
  | n+1, σ, x1, x2, x3, x4 => mb_X7_caughtKind_47 N (f_X7_caughtKind_47 N n) (fun σ x1 x2 x3 x4 => m_X7_caughtKind_47 N n σ x1 x2 x3 x4) σ x1 x2 x3 x4
theorem m_X7_caughtKind_44 (N : Nat) (σ : CS) (x1 : Nat) (x2 : Int32) (x3 : Int32) : Mono (CS.hs σ) (f_X7_caughtKind_44 N σ x1 x2 x3) := by
  unfold f_X7_caughtKind_44
  exact (m_X7_caughtKind_47 N N σ x1 x2 x3 0)
theorem m_X7_caughtKind (N : Nat) (σ : CS) (x1 : Nat) (x2 : Int32) : Mono (CS.hs σ) (f_X7_caughtKind N σ x1 x2) := by
  unfold f_X7_caughtKind
  exact (mono_bind (m_X1_found N σ 5) (fun p1 => (mono_ite (mono_bind (m_X1_misplaced N p1.2) (fun p36 => (mono_some (Nat.le_refl _)))) (mono_bind (m_X10_isKind N p1.2 (p1.2.i 45)) (fun p6 => (mono_ite (mono_bind (m_X1_fail N p6.2 3 (p6.2.i 44)) (fun p32 => (m_X7_caughtKind_44 N p32.2 x1 x2 (p1.2.i 45)))) (m_X7_caughtKind_44 N p6.2 x1 x2 (p1.2.i 45))))))))
theorem m_X7_beginCatch_80 (N : Nat) (σ : CS) (x1 : Nat) (x2 : Int32) : Mono (CS.hs σ) (f_X7_beginCatch_80 N σ x1 x2) := by
  unfold f_X7_beginCatch_80
  exact (mono_bind (m_X0_newCells N σ 1) (fun p24 => (mono_bind (m_X7_newName N p24.2) (fun p28 => (mono_bind (m_X4_add N p28.2 p28.1 p24.1 ((p28.2.i 38) - 1)) (fun p32 => (mono_bind (m_X1_close N p32.2 41) (fun p36 => (mono_bind (m_X1_open N p36.2 123) (fun p40 => (mono_ite (mono_bind (m_X0_add N p40.2 30 (CS.o p40.2 x1 10)) (fun p45 => (mono_bind (m_X0_aim N p45.2 x2) (fun p49 => (mono_bind (m_X0_add N p49.2 57 p24.1) (fun p53 => (mono_some (Nat.le_refl _)))))))) mono_none)))))))))))
theorem mb_X7_beginCatch_52 (N : Nat) (K : CS → Nat → Int32 → Int32 → Option (Unit × CS)) (hMK : ∀ (σ : CS) (x1 : Nat) (x2 : Int32) (x3 : Int32), Mono (CS.hs σ) (K σ x1 x2 x3)) (σ : CS) (x1 : Nat) (x2 : Int32) (x3 : Int32) : Mono (CS.hs σ) (b_X7_beginCatch_52 N K σ x1 x2 x3) := by
  unfold b_X7_beginCatch_52
  exact (mono_ite (m_X7_beginCatch_80 N σ x1 x2) (mono_bind (m_X1_skip N σ 124) (fun p57 => (mono_ite (m_X7_beginCatch_80 N p57.2 x1 x2) (mono_bind (m_X7_caughtKind N p57.2 x1 x2) (fun p62 => (hMK p62.2 x1 x2 (x3 + 1))))))))
theorem m_X7_beginCatch_52 (N : Nat) : ∀ (n : Nat) (σ : CS) (x1 : Nat) (x2 : Int32) (x3 : Int32), Mono (CS.hs σ) (f_X7_beginCatch_52 N n σ x1 x2 x3)
  | 0, _, _, _, _ => mono_none
  | n+1, σ, x1, x2, x3 => mb_X7_beginCatch_52 N (f_X7_beginCatch_52 N n) (fun σ x1 x2 x3 => m_X7_beginCatch_52 N n σ x1 x2 x3) σ x1 x2 x3
theorem m_X7_beginCatch (N : Nat) (σ : CS) (x1 : Nat) : Mono (CS.hs σ) (f_X7_beginCatch N σ x1) := by
  unfold f_X7_beginCatch
  exact (mono_bind (m_X0_newTarget N σ) (fun p1 => (mono_ite (mono_bind (m_X0_newTarget N (CS.setO (CS.setO p1.2 x1 0 215) x1 8 1)) (fun p6 => (mono_ite (mono_bind (m_X9_advance N (CS.setO p6.2 x1 10 p6.1)) (fun p11 => (mono_bind (m_X1_open N p11.2 40) (fun p15 => (mono_bind (m_X7_caughtKind N p15.2 x1 p1.1) (fun p19 => (m_X7_beginCatch_52 N N p19.2 x1 p1.1 0))))))) mono_none))) mono_none)))
theorem m_X7_beginFinally (N : Nat) (σ : CS) (x1 : Nat) : Mono (CS.hs σ) (f_X7_beginFinally N σ x1) := by
  unfold f_X7_beginFinally
  exact (mono_ite (mono_bind (m_X9_advance N (CS.setO (CS.setO σ x1 0 216) x1 15 (σ.i 55))) (fun p2 => (mono_bind (m_X1_open N p2.2 123) (fun p6 => (mono_bind (m_X0_add N p6.2 58 0) (fun p10 => (mono_ite (mono_bind (m_X0_aim N p10.2 (CS.o p10.2 x1 11)) (fun p15 => (mono_some (Nat.le_refl _)))) mono_none))))))) mono_none)
theorem m_X7_endLock (N : Nat) (σ : CS) (x1 : Nat) : Mono (CS.hs σ) (f_X7_endLock N σ x1) := by
  unfold f_X7_endLock
  exact (mono_ite (mono_bind (m_X7_leave N σ (CS.o σ x1 9) (CS.o σ x1 2)) (fun p2 => (mono_ite (mono_bind (m_X0_aim N p2.2 (CS.o p2.2 x1 9)) (fun p7 => (mono_bind (m_X6_pop N (CS.setI p7.2 38 ((p7.2.i 38) - 1))) (fun p11 => (mono_some (Nat.le_refl _)))))) mono_none))) mono_none)
theorem m_X7_endSwitch_99 (N : Nat) (σ : CS) : Mono (CS.hs σ) (f_X7_endSwitch_99 N σ ) := by
  unfold f_X7_endSwitch_99
  exact (mono_bind (m_X6_pop N σ) (fun p23 => (mono_some (Nat.le_refl _))))
theorem m_X7_endSwitch_53 (N : Nat) (σ : CS) (x1 : Nat) : Mono (CS.hs σ) (f_X7_endSwitch_53 N σ x1) := by
  unfold f_X7_endSwitch_53
  exact (mono_ite (mono_bind (m_X0_aim N σ (CS.o σ x1 9)) (fun p18 => (mono_ite (mono_ite (mono_ite (m_X7_endSwitch_99 N (CS.setI p18.2 36 1)) (mono_bind (m_X6_isGoneTo N p18.2 x1 0) (fun p29 => (mono_ite (m_X7_endSwitch_99 N (CS.setI p29.2 36 0)) (m_X7_endSwitch_99 N (CS.setI p29.2 36 1)))))) mono_none) (m_X7_endSwitch_99 N (CS.setI p18.2 36 1))))) mono_none)
theorem m_X7_endSwitch (N : Nat) (σ : CS) (x1 : Nat) : Mono (CS.hs σ) (f_X7_endSwitch N σ x1) := by
  unfold f_X7_endSwitch
  exact (mono_ite (mono_bind (m_X0_add N σ 30 (CS.o σ x1 9)) (fun p2 => (mono_ite (mono_bind (m_X0_aim N p2.2 (CS.o p2.2 x1 10)) (fun p7 => (mono_ite (mono_ite (mono_bind (m_X0_addCases N p7.2 (CS.o p7.2 x1 13) (CS.o p7.2 x1 9)) (fun p13 => (m_X7_endSwitch_53 N p13.2 x1))) (mono_bind (m_X0_addCases N p7.2 (CS.o p7.2 x1 13) (CS.o p7.2 x1 11)) (fun p34 => (m_X7_endSwitch_53 N p34.2 x1)))) mono_none))) mono_none))) mono_none)
theorem m_X7_endGuarded_66 (N : Nat) (σ : CS) (x1 : Nat) : Mono (CS.hs σ) (f_X7_endGuarded_66 N σ x1) := by
  unfold f_X7_endGuarded_66
  exact (mono_ite (mono_some (Nat.le_refl _)) mono_none)
theorem m_X7_endGuarded_46 (N : Nat) (σ : CS) (x1 : Nat) : Mono (CS.hs σ) (f_X7_endGuarded_46 N σ x1) := by
  unfold f_X7_endGuarded_46
  exact (mono_bind (m_X1_found N σ 215) (fun p13 => (mono_ite (mono_bind (m_X1_found N p13.2 216) (fun p19 => (mono_ite (mono_ite (mono_ite (mono_bind (m_X1_misplaced N p19.2) (fun p26 => (mono_some (Nat.le_refl _)))) (mono_bind (m_X0_add N p19.2 58 0) (fun p30 => (mono_ite (mono_bind (m_X0_aim N p30.2 (CS.o p30.2 x1 9)) (fun p35 => (mono_ite (mono_ite (mono_bind (m_X6_pop N (CS.setI (CS.setI p35.2 36 (CS.o p35.2 x1 6)) 38 ((p35.2.i 38) - 1))) (fun p41 => (mono_some (Nat.le_refl _)))) mono_none) mono_none))) mono_none)))) mono_none) (m_X7_endGuarded_66 N p19.2 x1)))) (m_X7_endGuarded_66 N p13.2 x1))))
theorem m_X7_endGuarded (N : Nat) (σ : CS) (x1 : Nat) : Mono (CS.hs σ) (f_X7_endGuarded N σ x1) := by
  unfold f_X7_endGuarded
  exact (mono_ite (mono_bind (m_X7_leave N σ (CS.o σ x1 9) (CS.o σ x1 2)) (fun p2 => (mono_ite (mono_bind (m_X0_aim N p2.2 (CS.o p2.2 x1 10)) (fun p7 => (mono_ite (mono_ite (mono_ite (m_X7_endGuarded_46 N (CS.setO p7.2 x1 6 0) x1) (m_X7_endGuarded_46 N (CS.setO p7.2 x1 6 1) x1)) (m_X7_endGuarded_46 N (CS.setO p7.2 x1 6 1) x1)) mono_none))) mono_none))) mono_none)
theorem mb_X6_loseJumps_2 (N : Nat) (K : CS → Int32 → Int32 → Option (Unit × CS)) (hMK : ∀ (σ : CS) (x2 : Int32) (x3 : Int32), Mono (CS.hs σ) (K σ x2 x3)) (σ : CS) (x2 : Int32) (x3 : Int32) : Mono (CS.hs σ) (b_X6_loseJumps_2 N K σ x2 x3) := by
  unfold b_X6_loseJumps_2
  exact (mono_ite (mono_some (Nat.le_refl _)) (hMK (CS.putA σ 52 (gPut (σ.a 52) 160 x3 0)) x2 (x3 + 1)))
theorem m_X6_loseJumps_2 (N : Nat) : ∀ (n : Nat) (σ : CS) (x2 : Int32) (x3 : Int32), Mono (CS.hs σ) (f_X6_loseJumps_2 N n σ x2 x3)
  | 0, _, _, _ => mono_none
  | n+1, σ, x2, x3 => mb_X6_loseJumps_2 N (f_X6_loseJumps_2 N n) (fun σ x2 x3 => m_X6_loseJumps_2 N n σ x2 x3) σ x2 x3
theorem m_X6_loseJumps (N : Nat) (σ : CS) (x1 : Int32) (x2 : Int32) : Mono (CS.hs σ) (f_X6_loseJumps N σ x1 x2) := by
  unfold f_X6_loseJumps
  exact (m_X6_loseJumps_2 N N σ x2 x1)
theorem m_X7_endFinally_66 (N : Nat) (σ : CS) : Mono (CS.hs σ) (f_X7_endFinally_66 N σ ) := by
  unfold f_X7_endFinally_66
  exact (mono_bind (m_X6_pop N (CS.setI σ 38 ((σ.i 38) - 1))) (fun p12 => (mono_some (Nat.le_refl _))))
theorem m_X7_endFinally_43 (N : Nat) (σ : CS) (x1 : Nat) : Mono (CS.hs σ) (f_X7_endFinally_43 N σ x1) := by
  unfold f_X7_endFinally_43
  exact (mono_ite (m_X7_endFinally_66 N (CS.setI σ 36 0)) (mono_ite (mono_ite (m_X7_endFinally_66 N (CS.setI σ 36 0)) (m_X7_endFinally_66 N (CS.setI σ 36 1))) mono_none))
theorem m_X7_endFinally (N : Nat) (σ : CS) (x1 : Nat) : Mono (CS.hs σ) (f_X7_endFinally N σ x1) := by
  unfold f_X7_endFinally
  exact (mono_bind (m_X0_add N σ 59 0) (fun p1 => (mono_ite (mono_bind (m_X0_aim N p1.2 (CS.o p1.2 x1 9)) (fun p6 => (mono_ite (mono_ite (mono_bind (m_X6_loseJumps N p6.2 (CS.o p6.2 x1 14) (CS.o p6.2 x1 15)) (fun p19 => (m_X7_endFinally_43 N p19.2 x1))) mono_none) (m_X7_endFinally_43 N p6.2 x1)))) mono_none)))
theorem m_X7_endList_72 (N : Nat) (σ : CS) (x1 : Nat) : Mono (CS.hs σ) (f_X7_endList_72 N σ x1) := by
  unfold f_X7_endList_72
  exact (mono_bind (m_X1_close N σ 125) (fun p4 => (mono_ite (mono_ite (mono_bind (m_X7_endLock N (CS.setI p4.2 50 (CS.o p4.2 x1 3)) x1) (fun p10 => (mono_some (Nat.le_refl _)))) (mono_ite (mono_bind (m_X7_endGuarded N (CS.setI p4.2 50 (CS.o p4.2 x1 3)) x1) (fun p15 => (mono_some (Nat.le_refl _)))) (mono_ite (mono_bind (m_X6_pop N (CS.setI p4.2 50 (CS.o p4.2 x1 3))) (fun p20 => (mono_some (Nat.le_refl _)))) (mono_ite (mono_bind (m_X7_endGuarded N (CS.setI p4.2 50 (CS.o p4.2 x1 3)) x1) (fun p25 => (mono_some (Nat.le_refl _)))) (mono_ite (mono_bind (m_X7_endFinally N (CS.setI p4.2 50 (CS.o p4.2 x1 3)) x1) (fun p30 => (mono_some (Nat.le_refl _)))) (mono_ite (mono_bind (m_X6_pop N (CS.setI p4.2 50 (CS.o p4.2 x1 3))) (fun p35 => (mono_some (Nat.le_refl _)))) (mono_ite (mono_bind (m_X7_endSwitch N (CS.setI p4.2 50 (CS.o p4.2 x1 3)) x1) (fun p40 => (mono_some (Nat.le_refl _)))) (mono_bind (m_X6_pop N (CS.setI p4.2 50 (CS.o p4.2 x1 3))) (fun p44 => (mono_some (Nat.le_refl _))))))))))) mono_none)))
theorem m_X7_endList (N : Nat) (σ : CS) (x1 : Nat) : Mono (CS.hs σ) (f_X7_endList N σ x1) := by
  unfold f_X7_endList
  exact (mono_ite (mono_ite (mono_bind (m_X1_expect N σ 0) (fun p53 => (mono_ite (mono_bind (m_X0_add N (CS.setI p53.2 27 (p53.2.i 36)) 50 0) (fun p58 => (mono_bind (m_X6_pop N p58.2) (fun p62 => (mono_some (Nat.le_refl _)))))) mono_none))) (mono_ite (mono_ite (m_X7_endList_72 N σ x1) (mono_bind (m_X7_notReached N σ (σ.i 44)) (fun p49 => (m_X7_endList_72 N p49.2 x1)))) (m_X7_endList_72 N σ x1))) mono_none)
theorem m_X7_groupTurn_87 (N : Nat) (E1 : CS → Option (Unit × CS)) (E2 : CS → Option (Int32 × CS)) (hm1 : ∀ σ, Mono (CS.hs σ) (E1 σ)) (hm2 : ∀ σ, Mono (CS.hs σ) (E2 σ)) (σ : CS) (x1 : Nat) (x2 : Int32) : Mono (CS.hs σ) (f_X7_groupTurn_87 N E1 E2 σ x1 x2) := by
  unfold f_X7_groupTurn_87
  exact (mono_bind (m_X1_expect N σ 58) (fun p21 => (mono_bind (m_X0_aim N p21.2 x2) (fun p25 => (mono_ite (mono_some (Nat.le_refl _)) mono_none)))))
theorem m_X7_groupTurn_59 (N : Nat) (E1 : CS → Option (Unit × CS)) (E2 : CS → Option (Int32 × CS)) (hm1 : ∀ σ, Mono (CS.hs σ) (E1 σ)) (hm2 : ∀ σ, Mono (CS.hs σ) (E2 σ)) (σ : CS) (x1 : Nat) (x2 : Int32) (x3 : Int32) : Mono (CS.hs σ) (f_X7_groupTurn_59 N E1 E2 σ x1 x2 x3) := by
  unfold f_X7_groupTurn_59
  exact (mono_bind (m_X9_advance N σ) (fun p15 => (mono_ite (mono_ite (m_X7_groupTurn_87 N E1 E2 hm1 hm2 (CS.setO p15.2 x1 11 x2) x1 x2) mono_none) (mono_ite (mono_bind (m_X1_caseNumber N p15.2 (CS.o p15.2 x1 13) x2) (fun p31 => (m_X7_groupTurn_87 N E1 E2 hm1 hm2 p31.2 x1 x2))) mono_none))))
theorem m_X7_groupTurn_20 (N : Nat) (E1 : CS → Option (Unit × CS)) (E2 : CS → Option (Int32 × CS)) (hm1 : ∀ σ, Mono (CS.hs σ) (E1 σ)) (hm2 : ∀ σ, Mono (CS.hs σ) (E2 σ)) (σ : CS) (x1 : Nat) : Mono (CS.hs σ) (f_X7_groupTurn_20 N E1 E2 σ x1) := by
  unfold f_X7_groupTurn_20
  exact (mono_bind (m_X0_newTarget N σ) (fun p6 => (mono_bind (m_X1_found N p6.2 219) (fun p10 => (mono_ite (mono_ite (mono_ite (m_X7_groupTurn_59 N E1 E2 hm1 hm2 p10.2 x1 p6.1 p10.1) (mono_bind (m_X1_fail N p10.2 4 (p10.2.i 44)) (fun p37 => (m_X7_groupTurn_59 N E1 E2 hm1 hm2 p37.2 x1 p6.1 p10.1)))) mono_none) (m_X7_groupTurn_59 N E1 E2 hm1 hm2 p10.2 x1 p6.1 p10.1))))))
theorem m_X7_groupTurn (N : Nat) (E1 : CS → Option (Unit × CS)) (E2 : CS → Option (Int32 × CS)) (hm1 : ∀ σ, Mono (CS.hs σ) (E1 σ)) (hm2 : ∀ σ, Mono (CS.hs σ) (E2 σ)) (σ : CS) (x1 : Nat) : Mono (CS.hs σ) (f_X7_groupTurn N E1 E2 σ x1) := by
  unfold f_X7_groupTurn
  exact (mono_bind (m_X1_found N σ 219) (fun p1 => (mono_ite (mono_bind (m_X1_found N p1.2 220) (fun p41 => (mono_ite (mono_ite (mono_ite (mono_bind (m_X1_misplaced N p41.2) (fun p48 => (mono_some (Nat.le_refl _)))) (mono_bind (m_X7_statement N E1 E2 hm1 hm2 p41.2 0) (fun p52 => (mono_some (Nat.le_refl _))))) mono_none) (m_X7_groupTurn_20 N E1 E2 hm1 hm2 p41.2 x1)))) (m_X7_groupTurn_20 N E1 E2 hm1 hm2 p1.2 x1))))
theorem mb_X7_turns_2 (N : Nat) (E1 : CS → Option (Unit × CS)) (E2 : CS → Option (Int32 × CS)) (hm1 : ∀ σ, Mono (CS.hs σ) (E1 σ)) (hm2 : ∀ σ, Mono (CS.hs σ) (E2 σ)) (K : CS → Int32 → Int32 → Option (Unit × CS)) (hMK : ∀ (σ : CS) (x1 : Int32) (x2 : Int32), Mono (CS.hs σ) (K σ x1 x2)) (σ : CS) (x1 : Int32) (x2 : Int32) : Mono (CS.hs σ) (b_X7_turns_2 N E1 E2 K σ x1 x2) := by
  unfold b_X7_turns_2
  exact (mono_ite (mono_ite mono_none (mono_some (Nat.le_refl _))) (mono_ite (mono_ite (mono_some (Nat.le_refl _)) (mono_bind (m_X6_row N σ ((σ.i 53) - 1)) (fun p4 => (mono_oc (mono_some (Nat.le_refl _)) (fun a9 => (mono_ite (mono_bind (m_X5_hasOneBody N p4.2 a9) (fun p12 => (mono_ite (mono_ite (mono_ite (mono_bind (m_X1_found N p12.2 215) (fun p47 => (mono_ite (mono_ite (mono_ite (mono_bind (m_X7_beginFinally N p47.2 a9) (fun p82 => (hMK p82.2 x1 (x2 + 1)))) (mono_bind (m_X1_found N p47.2 125) (fun p54 => (mono_ite (mono_bind (m_X1_found N p54.2 0) (fun p63 => (mono_ite (mono_ite (mono_ite (mono_bind (m_X7_groupTurn N E1 E2 hm1 hm2 p63.2 a9) (fun p74 => (hMK p74.2 x1 (x2 + 1)))) (mono_bind (m_X7_statement N E1 E2 hm1 hm2 p63.2 0) (fun p70 => (hMK p70.2 x1 (x2 + 1))))) mono_none) (mono_bind (m_X7_endList N p63.2 a9) (fun p78 => (hMK p78.2 x1 (x2 + 1))))))) (mono_bind (m_X7_endList N p54.2 a9) (fun p59 => (hMK p59.2 x1 (x2 + 1)))))))) mono_none) (mono_bind (m_X7_beginCatch N p47.2 a9) (fun p86 => (hMK p86.2 x1 (x2 + 1))))))) (mono_bind (m_X1_found N p12.2 125) (fun p19 => (mono_ite (mono_bind (m_X1_found N p19.2 0) (fun p28 => (mono_ite (mono_ite (mono_ite (mono_bind (m_X7_groupTurn N E1 E2 hm1 hm2 p28.2 a9) (fun p39 => (hMK p39.2 x1 (x2 + 1)))) (mono_bind (m_X7_statement N E1 E2 hm1 hm2 p28.2 0) (fun p35 => (hMK p35.2 x1 (x2 + 1))))) mono_none) (mono_bind (m_X7_endList N p28.2 a9) (fun p43 => (hMK p43.2 x1 (x2 + 1))))))) (mono_bind (m_X7_endList N p19.2 a9) (fun p24 => (hMK p24.2 x1 (x2 + 1)))))))) mono_none) (mono_bind (m_X7_bodyTurn N E1 E2 hm1 hm2 p12.2 a9) (fun p90 => (hMK p90.2 x1 (x2 + 1))))))) mono_none)))))) (mono_some (Nat.le_refl _))))
theorem m_X7_turns_2 (N : Nat) (E1 : CS → Option (Unit × CS)) (E2 : CS → Option (Int32 × CS)) (hm1 : ∀ σ, Mono (CS.hs σ) (E1 σ)) (hm2 : ∀ σ, Mono (CS.hs σ) (E2 σ)) : ∀ (n : Nat) (σ : CS) (x1 : Int32) (x2 : Int32), Mono (CS.hs σ) (f_X7_turns_2 N E1 E2 n σ x1 x2)
  | 0, _, _, _ => mono_none
  | n+1, σ, x1, x2 => mb_X7_turns_2 N E1 E2 hm1 hm2 (f_X7_turns_2 N E1 E2 n) (fun σ x1 x2 => m_X7_turns_2 N E1 E2 hm1 hm2 n σ x1 x2) σ x1 x2
theorem m_X7_turns (N : Nat) (E1 : CS → Option (Unit × CS)) (E2 : CS → Option (Int32 × CS)) (hm1 : ∀ σ, Mono (CS.hs σ) (E1 σ)) (hm2 : ∀ σ, Mono (CS.hs σ) (E2 σ)) (σ : CS) (x1 : Int32) : Mono (CS.hs σ) (f_X7_turns N E1 E2 σ x1) := by
  unfold f_X7_turns
  exact (m_X7_turns_2 N E1 E2 hm1 hm2 N σ x1 0)
theorem m_X7_armBlock (N : Nat) (E1 : CS → Option (Unit × CS)) (E2 : CS → Option (Int32 × CS)) (hm1 : ∀ σ, Mono (CS.hs σ) (E1 σ)) (hm2 : ∀ σ, Mono (CS.hs σ) (E2 σ)) (σ : CS) (x1 : Int32) : Mono (CS.hs σ) (f_X7_armBlock N E1 E2 σ x1) := by
  unfold f_X7_armBlock
  exact (mono_bind (m_X1_open N σ 123) (fun p1 => (mono_bind (m_X6_push N p1.2 302 (p1.2.i 38) (p1.2.i 50)) (fun p5 => (mono_oc mono_none (fun a10 => (mono_ite (mono_bind (m_X7_turns N E1 E2 hm1 hm2 (CS.setI (CS.setI (CS.setO (CS.setO p5.2 a10 9 x1) a10 16 (p5.2.i 56)) 56 (σ.i 53)) 36 1) (σ.i 53)) (fun p12 => (mono_ite (mono_ite (mono_some (Nat.le_refl _)) mono_none) mono_none))) mono_none)))))))
theorem m_X1_arm_153 (N : Nat) (E1 : CS → Option (Unit × CS)) (E2 : CS → Option (Int32 × CS)) (hm1 : ∀ σ, Mono (CS.hs σ) (E1 σ)) (hm2 : ∀ σ, Mono (CS.hs σ) (E2 σ)) (σ : CS) (x5 : Int32) : Mono (CS.hs σ) (f_X1_arm_153 N E1 E2 σ x5) := by
  unfold f_X1_arm_153
  exact (mono_some (Nat.le_refl _))
theorem m_X1_arm_100 (N : Nat) (E1 : CS → Option (Unit × CS)) (E2 : CS → Option (Int32 × CS)) (hm1 : ∀ σ, Mono (CS.hs σ) (E1 σ)) (hm2 : ∀ σ, Mono (CS.hs σ) (E2 σ)) (σ : CS) (x3 : Int32) (x4 : Int32) (x5 : Int32) : Mono (CS.hs σ) (f_X1_arm_100 N E1 E2 σ x3 x4 x5) := by
  unfold f_X1_arm_100
  exact (mono_bind (m_X1_expect N σ 134) (fun p19 => (mono_bind (m_X0_aim N p19.2 x4) (fun p23 => (mono_bind (m_X1_found N p23.2 123) (fun p27 => (mono_ite (mono_bind (m_X1_expression N E1 E2 hm1 hm2 p27.2) (fun p32 => (mono_bind (m_X1_expect N p32.2 59) (fun p36 => (mono_bind (m_X0_add N p36.2 30 x3) (fun p40 => (m_X1_arm_153 N E1 E2 hm1 hm2 p40.2 x5))))))) (mono_bind (m_X7_armBlock N E1 E2 hm1 hm2 p27.2 x3) (fun p44 => (m_X1_arm_153 N E1 E2 hm1 hm2 p44.2 x5))))))))))
theorem mb_X1_arm_70 (N : Nat) (E1 : CS → Option (Unit × CS)) (E2 : CS → Option (Int32 × CS)) (hm1 : ∀ σ, Mono (CS.hs σ) (E1 σ)) (hm2 : ∀ σ, Mono (CS.hs σ) (E2 σ)) (K : CS → Int32 → Int32 → Int32 → Int32 → Int32 → Option (Int32 × CS)) (hMK : ∀ (σ : CS) (x1 : Int32) (x3 : Int32) (x4 : Int32) (x5 : Int32) (x6 : Int32), Mono (CS.hs σ) (K σ x1 x3 x4 x5 x6)) (σ : CS) (x1 : Int32) (x3 : Int32) (x4 : Int32) (x5 : Int32) (x6 : Int32) : Mono (CS.hs σ) (b_X1_arm_70 N E1 E2 K σ x1 x3 x4 x5 x6) := by
  unfold b_X1_arm_70
  exact (mono_ite (m_X1_arm_100 N E1 E2 hm1 hm2 σ x3 x4 x5) (mono_bind (m_X1_skip N σ 44) (fun p48 => (mono_ite (m_X1_arm_100 N E1 E2 hm1 hm2 p48.2 x3 x4 x5) (mono_bind (m_X1_caseNumber N p48.2 x1 x4) (fun p53 => (hMK p53.2 x1 x3 x4 x5 (x6 + 1))))))))
theorem m_X1_arm_70 (N : Nat) (E1 : CS → Option (Unit × CS)) (E2 : CS → Option (Int32 × CS)) (hm1 : ∀ σ, Mono (CS.hs σ) (E1 σ)) (hm2 : ∀ σ, Mono (CS.hs σ) (E2 σ)) : ∀ (n : Nat) (σ : CS) (x1 : Int32) (x3 : Int32) (x4 : Int32) (x5 : Int32) (x6 : Int32), Mono (CS.hs σ) (f_X1_arm_70 N E1 E2 n σ x1 x3 x4 x5 x6)
  | 0, _, _, _, _, _, _ => mono_none
  | n+1, σ, x1, x3, x4, x5, x6 => mb_X1_arm_70 N E1 E2 hm1 hm2 (f_X1_arm_70 N E1 E2 n) (fun σ x1 x3 x4 x5 x6 => m_X1_arm_70 N E1 E2 hm1 hm2 n σ x1 x3 x4 x5 x6) σ x1 x3 x4 x5 x6
theorem m_X1_arm_39 (N : Nat) (E1 : CS → Option (Unit × CS)) (E2 : CS → Option (Int32 × CS)) (hm1 : ∀ σ, Mono (CS.hs σ) (E1 σ)) (hm2 : ∀ σ, Mono (CS.hs σ) (E2 σ)) (σ : CS) (x3 : Int32) (x4 : Int32) : Mono (CS.hs σ) (f_X1_arm_39 N E1 E2 σ x3 x4) := by
  unfold f_X1_arm_39
  exact (mono_bind (m_X9_advance N σ) (fun p58 => (m_X1_arm_100 N E1 E2 hm1 hm2 p58.2 x3 x4 x4)))
theorem m_X1_arm (N : Nat) (E1 : CS → Option (Unit × CS)) (E2 : CS → Option (Int32 × CS)) (hm1 : ∀ σ, Mono (CS.hs σ) (E1 σ)) (hm2 : ∀ σ, Mono (CS.hs σ) (E2 σ)) (σ : CS) (x1 : Int32) (x2 : Int32) (x3 : Int32) : Mono (CS.hs σ) (f_X1_arm N E1 E2 σ x1 x2 x3) := by
  unfold f_X1_arm
  exact (mono_bind (m_X0_newTarget N σ) (fun p1 => (mono_bind (m_X1_found N p1.2 220) (fun p5 => (mono_ite (mono_bind (m_X9_advance N p5.2) (fun p10 => (mono_bind (m_X1_caseNumber N p10.2 x1 p1.1) (fun p14 => (m_X1_arm_70 N E1 E2 hm1 hm2 N p14.2 x1 x3 p1.1 x2 0))))) (mono_ite (m_X1_arm_39 N E1 E2 hm1 hm2 p5.2 x3 p1.1) (mono_bind (m_X1_fail N p5.2 4 (p5.2.i 44)) (fun p62 => (m_X1_arm_39 N E1 E2 hm1 hm2 p62.2 x3 p1.1)))))))))
theorem m_X1_choice_122 (N : Nat) (E1 : CS → Option (Unit × CS)) (E2 : CS → Option (Int32 × CS)) (hm1 : ∀ σ, Mono (CS.hs σ) (E1 σ)) (hm2 : ∀ σ, Mono (CS.hs σ) (E2 σ)) (σ : CS) (x1 : Int32) (x2 : Int32) (x3 : Int32) (x4 : Int32) : Mono (CS.hs σ) (f_X1_choice_122 N E1 E2 σ x1 x2 x3 x4) := by
  unfold f_X1_choice_122
  exact (mono_bind (m_X1_close N σ 125) (fun p35 => (mono_bind (m_X0_aim N p35.2 x1) (fun p39 => (mono_bind (m_X0_addCases N p39.2 x3 x4) (fun p43 => (mono_bind (m_X0_aim N p43.2 x2) (fun p47 => (mono_some (Nat.le_refl _))))))))))
theorem m_X1_choice_113 (N : Nat) (E1 : CS → Option (Unit × CS)) (E2 : CS → Option (Int32 × CS)) (hm1 : ∀ σ, Mono (CS.hs σ) (E1 σ)) (hm2 : ∀ σ, Mono (CS.hs σ) (E2 σ)) (σ : CS) (x1 : Int32) (x2 : Int32) (x3 : Int32) (x4 : Int32) : Mono (CS.hs σ) (f_X1_choice_113 N E1 E2 σ x1 x2 x3 x4) := by
  unfold f_X1_choice_113
  exact (mono_ite (m_X1_choice_122 N E1 E2 hm1 hm2 σ x1 x2 x3 x4) (mono_bind (m_X1_misplaced N σ) (fun p51 => (m_X1_choice_122 N E1 E2 hm1 hm2 p51.2 x1 x2 x3 x4))))
theorem mb_X1_choice_69 (N : Nat) (E1 : CS → Option (Unit × CS)) (E2 : CS → Option (Int32 × CS)) (hm1 : ∀ σ, Mono (CS.hs σ) (E1 σ)) (hm2 : ∀ σ, Mono (CS.hs σ) (E2 σ)) (K : CS → Int32 → Int32 → Int32 → Int32 → Int32 → Option (Unit × CS)) (hMK : ∀ (σ : CS) (x1 : Int32) (x2 : Int32) (x3 : Int32) (x4 : Int32) (x5 : Int32), Mono (CS.hs σ) (K σ x1 x2 x3 x4 x5)) (σ : CS) (x1 : Int32) (x2 : Int32) (x3 : Int32) (x4 : Int32) (x5 : Int32) : Mono (CS.hs σ) (b_X1_choice_69 N E1 E2 K σ x1 x2 x3 x4 x5) := by
  unfold b_X1_choice_69
  exact (mono_ite (m_X1_choice_113 N E1 E2 hm1 hm2 σ x1 x2 x3 x4) (mono_bind (m_X1_found N σ 219) (fun p55 => (mono_ite (mono_bind (m_X1_found N p55.2 220) (fun p64 => (mono_ite (m_X1_choice_113 N E1 E2 hm1 hm2 p64.2 x1 x2 x3 x4) (mono_bind (m_X1_arm N E1 E2 hm1 hm2 p64.2 x3 x4 x2) (fun p69 => (hMK p69.2 x1 x2 x3 p69.1 (x5 + 1))))))) (mono_bind (m_X1_arm N E1 E2 hm1 hm2 p55.2 x3 x4 x2) (fun p60 => (hMK p60.2 x1 x2 x3 p60.1 (x5 + 1))))))))
theorem m_X1_choice_69 (N : Nat) (E1 : CS → Option (Unit × CS)) (E2 : CS → Option (Int32 × CS)) (hm1 : ∀ σ, Mono (CS.hs σ) (E1 σ)) (hm2 : ∀ σ, Mono (CS.hs σ) (E2 σ)) : ∀ (n : Nat) (σ : CS) (x1 : Int32) (x2 : Int32) (x3 : Int32) (x4 : Int32) (x5 : Int32), Mono (CS.hs σ) (f_X1_choice_69 N E1 E2 n σ x1 x2 x3 x4 x5)
  | 0, _, _, _, _, _, _ => mono_none
  | n+1, σ, x1, x2, x3, x4, x5 => mb_X1_choice_69 N E1 E2 hm1 hm2 (f_X1_choice_69 N E1 E2 n) (fun σ x1 x2 x3 x4 x5 => m_X1_choice_69 N E1 E2 hm1 hm2 n σ x1 x2 x3 x4 x5) σ x1 x2 x3 x4 x5
theorem m_X1_choice (N : Nat) (E1 : CS → Option (Unit × CS)) (E2 : CS → Option (Int32 × CS)) (hm1 : ∀ σ, Mono (CS.hs σ) (E1 σ)) (hm2 : ∀ σ, Mono (CS.hs σ) (E2 σ)) (σ : CS) : Mono (CS.hs σ) (f_X1_choice N E1 E2 σ) := by
  unfold f_X1_choice
  exact (mono_bind (m_X9_advance N σ) (fun p1 => (mono_bind (m_X1_open N p1.2 40) (fun p5 => (mono_bind (m_X1_expression N E1 E2 hm1 hm2 p5.2) (fun p9 => (mono_bind (m_X1_close N p9.2 41) (fun p13 => (mono_bind (m_X1_open N p13.2 123) (fun p17 => (mono_bind (m_X0_newTarget N p17.2) (fun p21 => (mono_bind (m_X0_newTarget N p21.2) (fun p25 => (mono_bind (m_X0_add N p25.2 30 p21.1) (fun p29 => (m_X1_choice_69 N E1 E2 hm1 hm2 N p29.2 p21.1 p25.1 (p25.2.i 22) (-1) 0)))))))))))))))))
theorem m_X1_factor (N : Nat) (E1 : CS → Option (Unit × CS)) (E2 : CS → Option (Int32 × CS)) (hm1 : ∀ σ, Mono (CS.hs σ) (E1 σ)) (hm2 : ∀ σ, Mono (CS.hs σ) (E2 σ)) (σ : CS) : Mono (CS.hs σ) (f_X1_factor N E1 E2 σ) := by
  unfold f_X1_factor
  exact (mono_ite (mono_bind (m_X0_add N σ 0 (σ.i 45)) (fun p2 => (mono_bind (m_X9_advance N p2.2) (fun p6 => (mono_some (Nat.le_refl _)))))) (mono_ite (mono_bind (m_X1_loadName N σ) (fun p11 => (mono_some (Nat.le_refl _)))) (mono_ite (mono_bind (m_X1_open N σ 40) (fun p16 => (mono_bind (m_X1_expression N E1 E2 hm1 hm2 p16.2) (fun p20 => (mono_bind (m_X1_close N p20.2 41) (fun p24 => (mono_some (Nat.le_refl _)))))))) (mono_ite (mono_bind (m_X1_negated N E1 E2 hm1 hm2 σ) (fun p29 => (mono_some (Nat.le_refl _)))) (mono_ite (mono_bind (m_X1_choice N E1 E2 hm1 hm2 σ) (fun p34 => (mono_some (Nat.le_refl _)))) (mono_bind (m_X1_misplaced N σ) (fun p38 => (mono_some (Nat.le_refl _)))))))))
theorem m_X1_comparing (N : Nat) (σ : CS) (x0 : Int32) : Mono (CS.hs σ) (f_X1_comparing N σ x0) := by
  unfold f_X1_comparing
  exact (mono_ite (mono_some (Nat.le_refl _)) (mono_ite (mono_some (Nat.le_refl _)) (mono_ite (mono_some (Nat.le_refl _)) (mono_ite (mono_some (Nat.le_refl _)) (mono_ite (mono_some (Nat.le_refl _)) (mono_ite (mono_some (Nat.le_refl _)) (mono_some (Nat.le_refl _))))))))
theorem m_X1_comparison (N : Nat) (E1 : CS → Option (Unit × CS)) (E2 : CS → Option (Int32 × CS)) (hm1 : ∀ σ, Mono (CS.hs σ) (E1 σ)) (hm2 : ∀ σ, Mono (CS.hs σ) (E2 σ)) (σ : CS) : Mono (CS.hs σ) (f_X1_comparison N E1 E2 σ) := by
  unfold f_X1_comparison
  exact (mono_bind (m_X1_expression N E1 E2 hm1 hm2 σ) (fun p1 => (mono_bind (m_X1_comparing N p1.2 (p1.2.i 43)) (fun p5 => (mono_ite (mono_bind (m_X9_advance N p5.2) (fun p10 => (mono_bind (m_X1_expression N E1 E2 hm1 hm2 p10.2) (fun p14 => (mono_bind (m_X0_add N p14.2 p5.1 0) (fun p18 => (mono_some (Nat.le_refl _)))))))) (mono_bind (m_X1_misplaced N p5.2) (fun p22 => (mono_some (Nat.le_refl _)))))))))
theorem m_X1_one_66 (N : Nat) (E1 : CS → Option (Unit × CS)) (E2 : CS → Option (Int32 × CS)) (hm1 : ∀ σ, Mono (CS.hs σ) (E1 σ)) (hm2 : ∀ σ, Mono (CS.hs σ) (E2 σ)) (σ : CS) : Mono (CS.hs σ) (f_X1_one_66 N E1 E2 σ ) := by
  unfold f_X1_one_66
  exact (mono_bind (m_X0_add N (CS.setI σ 34 ((σ.i 34) - 1)) 5 0) (fun p7 => (mono_some (Nat.le_refl _))))
theorem m_X1_one (N : Nat) (E1 : CS → Option (Unit × CS)) (E2 : CS → Option (Int32 × CS)) (hm1 : ∀ σ, Mono (CS.hs σ) (E1 σ)) (hm2 : ∀ σ, Mono (CS.hs σ) (E2 σ)) (σ : CS) : Mono (CS.hs σ) (f_X1_one N E1 E2 σ) := by
  unfold f_X1_one
  exact (mono_ite (mono_bind (m_X1_open N σ 33) (fun p2 => (mono_ite (mono_bind (hm2 p2.2) (fun p11 => (m_X1_one_66 N E1 E2 hm1 hm2 p11.2))) (m_X1_one_66 N E1 E2 hm1 hm2 p2.2)))) (mono_ite (mono_bind (m_X1_open N σ 91) (fun p16 => (mono_bind (m_X1_condition N E1 E2 hm1 hm2 p16.2) (fun p20 => (mono_bind (m_X1_close N p20.2 93) (fun p24 => (mono_some (Nat.le_refl _)))))))) (mono_ite (mono_bind (m_X0_add N σ 0 1) (fun p29 => (mono_bind (m_X9_advance N p29.2) (fun p33 => (mono_some (Nat.le_refl _)))))) (mono_ite (mono_bind (m_X0_add N σ 0 0) (fun p38 => (mono_bind (m_X9_advance N p38.2) (fun p42 => (mono_some (Nat.le_refl _)))))) (mono_bind (m_X1_comparison N E1 E2 hm1 hm2 σ) (fun p46 => (mono_some (Nat.le_refl _))))))))
theorem m_X2_init (N : Nat) (σ : CS) (x0 : Nat) : Mono (CS.hs σ) (f_X2_init N σ x0) := by
  unfold f_X2_init
  exact (mono_some (Nat.le_refl _))
theorem m_X3_push (N : Nat) (σ : CS) (x1 : Int32) : Mono (CS.hs σ) (f_X3_push N σ x1) := by
  unfold f_X3_push
  exact (mono_some (Nat.le_refl _))
theorem m_X3_pop (N : Nat) (σ : CS) : Mono (CS.hs σ) (f_X3_pop N σ) := by
  unfold f_X3_pop
  exact (mono_some (Nat.le_refl _))
theorem m_X3_move (N : Nat) (σ : CS) (x1 : Int32) (x2 : Int32) : Mono (CS.hs σ) (f_X3_move N σ x1 x2) := by
  unfold f_X3_move
  exact (mono_ite (mono_bind (m_X3_push N σ x2) (fun p2 => (mono_some (Nat.le_refl _)))) (mono_ite (mono_bind (m_X3_push N σ (gAt (σ.a 59) 720 x2)) (fun p8 => (mono_some (Nat.le_refl _)))) (mono_ite (mono_bind (m_X3_pop N σ) (fun p13 => (mono_some (Nat.le_refl _)))) (mono_ite (mono_some (Nat.le_refl _)) (mono_ite (mono_bind (m_X3_pop N σ) (fun p20 => (mono_bind (m_X3_push N p20.2 (-p20.1)) (fun p24 => (mono_some (Nat.le_refl _)))))) (mono_ite (mono_bind (m_X3_pop N σ) (fun p29 => (mono_bind (m_X3_push N p29.2 (1 - p29.1)) (fun p33 => (mono_some (Nat.le_refl _)))))) (mono_bind (m_X3_pop N σ) (fun p37 => (mono_some (Nat.le_refl _))))))))))
theorem m_X3_compares (N : Nat) (σ : CS) (x0 : Int32) (x1 : Int32) (x2 : Int32) : Mono (CS.hs σ) (f_X3_compares N σ x0 x1 x2) := by
  unfold f_X3_compares
  exact (mono_ite (mono_ite (mono_some (Nat.le_refl _)) (mono_some (Nat.le_refl _))) (mono_ite (mono_ite (mono_some (Nat.le_refl _)) (mono_some (Nat.le_refl _))) (mono_ite (mono_ite (mono_some (Nat.le_refl _)) (mono_some (Nat.le_refl _))) (mono_ite (mono_ite (mono_some (Nat.le_refl _)) (mono_some (Nat.le_refl _))) (mono_ite (mono_ite (mono_some (Nat.le_refl _)) (mono_some (Nat.le_refl _))) (mono_ite (mono_some (Nat.le_refl _)) (mono_some (Nat.le_refl _))))))))
theorem m_X8_init (N : Nat) (σ : CS) (x0 : Nat) : Mono (CS.hs σ) (f_X8_init N σ x0) := by
  unfold f_X8_init
  exact (mono_le (Nat.le_succ _) (mono_ite (mono_ite (mono_le (Nat.le_succ _) (mono_ite (mono_ite (mono_some (Nat.le_refl _)) mono_none) mono_none)) mono_none) mono_none))
theorem m_X3_isHeld_46 (N : Nat) (σ : CS) : Mono (CS.hs σ) (f_X3_isHeld_46 N σ ) := by
  unfold f_X3_isHeld_46
  exact (mono_some (Nat.le_refl _))
theorem mb_X3_isHeld_2 (N : Nat) (K : CS → Nat → Int32 → Option (Int32 × CS)) (hMK : ∀ (σ : CS) (x1 : Nat) (x2 : Int32), Mono (CS.hs σ) (K σ x1 x2)) (σ : CS) (x1 : Nat) (x2 : Int32) : Mono (CS.hs σ) (b_X3_isHeld_2 N K σ x1 x2) := by
  unfold b_X3_isHeld_2
  exact (mono_ite (m_X3_isHeld_46 N σ) (mono_ite (m_X3_isHeld_46 N σ) (mono_ite (mono_oc (hMK σ x1 (x2 + 1)) (fun a5 => (mono_ite (mono_oc (mono_ite (mono_some (Nat.le_refl _)) (hMK σ x1 (x2 + 1))) (fun a8 => (mono_ite (mono_some (Nat.le_refl _)) (hMK σ x1 (x2 + 1))))) mono_none))) mono_none)))
theorem m_X3_isHeld_2 (N : Nat) : ∀ (n : Nat) (σ : CS) (x1 : Nat) (x2 : Int32), Mono (CS.hs σ) (f_X3_isHeld_2 N n σ x1 x2)
  | 0, _, _, _ => mono_none
  | n+1, σ, x1, x2 => mb_X3_isHeld_2 N (f_X3_isHeld_2 N n) (fun σ x1 x2 => m_X3_isHeld_2 N n σ x1 x2) σ x1 x2
theorem m_X3_isHeld (N : Nat) (σ : CS) (x1 : Nat) : Mono (CS.hs σ) (f_X3_isHeld N σ x1) := by
  unfold f_X3_isHeld
  exact (m_X3_isHeld_2 N N σ x1 0)
theorem mb_X3_freeThrown_2 (N : Nat) (K : CS → Int32 → Option (Option Nat × CS)) (hMK : ∀ (σ : CS) (x1 : Int32), Mono (CS.hs σ) (K σ x1)) (σ : CS) (x1 : Int32) : Mono (CS.hs σ) (b_X3_freeThrown_2 N K σ x1) := by
  unfold b_X3_freeThrown_2
  exact (mono_ite (mono_le (Nat.le_succ _) (mono_bind (m_X8_init N (CS.new σ 4) (CS.hs σ)) (fun p3 => (mono_some (Nat.le_refl _))))) (mono_ite (mono_oc (mono_le (Nat.le_succ _) (mono_bind (m_X8_init N (CS.new σ 4) (CS.hs σ)) (fun p11 => (mono_ite (mono_ite (mono_oc mono_none (fun a18 => (mono_bind (m_X3_isHeld N (CS.setR p11.2 62 ((x1 : Int32).toNatClampNeg) (some (CS.hs σ))) a18) (fun p19 => (mono_ite (mono_oc (mono_some (Nat.le_refl _)) (fun a25 => (mono_some (Nat.le_refl _)))) (hMK p19.2 (x1 + 1))))))) mono_none) mono_none)))) (fun a9 => (mono_oc mono_none (fun a27 => (mono_bind (m_X3_isHeld N σ a27) (fun p28 => (mono_ite (mono_oc (mono_some (Nat.le_refl _)) (fun a34 => (mono_some (Nat.le_refl _)))) (hMK p28.2 (x1 + 1))))))))) mono_none))
theorem m_X3_freeThrown_2 (N : Nat) : ∀ (n : Nat) (σ : CS) (x1 : Int32), Mono (CS.hs σ) (f_X3_freeThrown_2 N n σ x1)
  | 0, _, _ => mono_none
  | n+1, σ, x1 => mb_X3_freeThrown_2 N (f_X3_freeThrown_2 N n) (fun σ x1 => m_X3_freeThrown_2 N n σ x1) σ x1
theorem m_X3_freeThrown (N : Nat) (σ : CS) : Mono (CS.hs σ) (f_X3_freeThrown N σ) := by
  unfold f_X3_freeThrown
  exact (m_X3_freeThrown_2 N N σ 0)
theorem m_X3_go (N : Nat) (σ : CS) (x1 : Int32) (x2 : Int32) (x3 : Int32) : Mono (CS.hs σ) (f_X3_go N σ x1 x2 x3) := by
  unfold f_X3_go
  exact (mono_some (Nat.le_refl _))
theorem m_X3_raise (N : Nat) (σ : CS) (x1 : Int32) (x2 : Int32) : Mono (CS.hs σ) (f_X3_raise N σ x1 x2) := by
  unfold f_X3_raise
  exact (mono_bind (m_X3_freeThrown N σ) (fun p1 => (mono_oc (mono_oc mono_none (fun a8 => (mono_ite (mono_oc mono_none (fun a11 => (mono_ite (mono_oc mono_none (fun a14 => (mono_ite (mono_bind (m_X3_go N (CS.setO (CS.setO (CS.setO (CS.setW p1.2 none) a8 2 x1) a11 3 x2) a14 4 0) 4 0 0) (fun p16 => (mono_some (Nat.le_refl _)))) mono_none))) mono_none))) mono_none))) (fun a6 => (mono_oc mono_none (fun a21 => (mono_ite (mono_oc mono_none (fun a24 => (mono_ite (mono_oc mono_none (fun a27 => (mono_ite (mono_bind (m_X3_go N (CS.setO (CS.setO (CS.setO (CS.setW p1.2 (some a6)) a21 2 x1) a24 3 x2) a27 4 0) 4 0 0) (fun p29 => (mono_some (Nat.le_refl _)))) mono_none))) mono_none))) mono_none)))))))
theorem m_X3_divide (N : Nat) (σ : CS) (x1 : Int32) (x2 : Int32) (x3 : Int32) : Mono (CS.hs σ) (f_X3_divide N σ x1 x2 x3) := by
  unfold f_X3_divide
  exact (mono_ite (mono_bind (m_X3_raise N σ 2 0) (fun p13 => (mono_some (Nat.le_refl _)))) (mono_ite (mono_ite mono_none (mono_bind (m_X3_push N σ (x2 / x3)) (fun p9 => (mono_some (Nat.le_refl _))))) (mono_ite mono_none (mono_bind (m_X3_push N σ (x2 - x2 / x3 * x3)) (fun p4 => (mono_some (Nat.le_refl _)))))))
theorem m_X3_combine (N : Nat) (σ : CS) (x1 : Int32) : Mono (CS.hs σ) (f_X3_combine N σ x1) := by
  unfold f_X3_combine
  exact (mono_bind (m_X3_pop N σ) (fun p1 => (mono_bind (m_X3_pop N p1.2) (fun p5 => (mono_ite (mono_ite (mono_bind (m_X3_push N p5.2 (p5.1 + p1.1)) (fun p11 => (mono_some (Nat.le_refl _)))) (mono_ite (mono_bind (m_X3_push N p5.2 (p5.1 - p1.1)) (fun p16 => (mono_some (Nat.le_refl _)))) (mono_ite (mono_bind (m_X3_push N p5.2 (p5.1 * p1.1)) (fun p21 => (mono_some (Nat.le_refl _)))) (mono_bind (m_X3_divide N p5.2 x1 p5.1 p1.1) (fun p25 => (mono_some (Nat.le_refl _))))))) (mono_bind (m_X3_compares N p5.2 x1 p5.1 p1.1) (fun p29 => (mono_ite (mono_bind (m_X3_push N p29.2 0) (fun p34 => (mono_some (Nat.le_refl _)))) (mono_bind (m_X3_push N p29.2 1) (fun p38 => (mono_some (Nat.le_refl _))))))))))))
theorem m_X3_goIf (N : Nat) (σ : CS) (x1 : Int32) (x2 : Int32) : Mono (CS.hs σ) (f_X3_goIf N σ x1 x2) := by
  unfold f_X3_goIf
  exact (mono_ite (mono_some (Nat.le_refl _)) (mono_some (Nat.le_refl _)))
theorem m_X3_keep_22 (N : Nat) (σ : CS) (x1 : Int32) (x2 : Int32) (x3 : Int32) : Mono (CS.hs σ) (f_X3_keep_22 N σ x1 x2 x3) := by
  unfold f_X3_keep_22
  exact (mono_ite (mono_some (Nat.le_refl _)) (mono_bind (m_X3_pop N σ) (fun p4 => (mono_some (Nat.le_refl _)))))
theorem m_X3_keep (N : Nat) (σ : CS) (x1 : Int32) (x2 : Int32) : Mono (CS.hs σ) (f_X3_keep N σ x1 x2) := by
  unfold f_X3_keep
  exact (mono_ite (m_X3_keep_22 N σ x1 x2 0) (m_X3_keep_22 N σ x1 x2 1))
theorem m_X3_compareCase (N : Nat) (σ : CS) (x1 : Int32) : Mono (CS.hs σ) (f_X3_compareCase N σ x1) := by
  unfold f_X3_compareCase
  exact (mono_bind (m_X3_pop N σ) (fun p1 => (mono_ite (mono_bind (m_X3_pop N p1.2) (fun p7 => (mono_some (Nat.le_refl _)))) (mono_some (Nat.le_refl _)))))
theorem mb_X3_fillRow_29 (N : Nat) (K : CS → Int32 → Int32 → Option (Unit × CS)) (hMK : ∀ (σ : CS) (x1 : Int32) (x3 : Int32), Mono (CS.hs σ) (K σ x1 x3)) (σ : CS) (x1 : Int32) (x3 : Int32) : Mono (CS.hs σ) (b_X3_fillRow_29 N K σ x1 x3) := by
  unfold b_X3_fillRow_29
  exact (mono_ite (mono_some (Nat.le_refl _)) (mono_bind (m_X3_pop N σ) (fun p6 => (hMK (CS.putA p6.2 59 (gPut (p6.2.a 59) 720 ((x1 + 2) + x3) p6.1)) x1 (x3 + (-1))))))
theorem m_X3_fillRow_29 (N : Nat) : ∀ (n : Nat) (σ : CS) (x1 : Int32) (x3 : Int32), Mono (CS.hs σ) (f_X3_fillRow_29 N n σ x1 x3)
  | 0, _, _, _ => mono_none
  | n+1, σ, x1, x3 => mb_X3_fillRow_29 N (f_X3_fillRow_29 N n) (fun σ x1 x3 => m_X3_fillRow_29 N n σ x1 x3) σ x1 x3
theorem m_X3_fillRow (N : Nat) (σ : CS) (x1 : Int32) : Mono (CS.hs σ) (f_X3_fillRow N σ x1) := by
  unfold f_X3_fillRow
  exact (mono_bind (m_X3_pop N σ) (fun p1 => (m_X3_fillRow_29 N N (CS.putA (CS.putA p1.2 59 (gPut (p1.2.a 59) 720 x1 0)) 59 (gPut (CS.a (CS.putA p1.2 59 (gPut (p1.2.a 59) 720 x1 0)) 59) 720 (x1 + 1) p1.1)) x1 (p1.1 - 1))))
theorem m_X3_steer_83 (N : Nat) (σ : CS) : Mono (CS.hs σ) (f_X3_steer_83 N σ ) := by
  unfold f_X3_steer_83
  exact (mono_some (Nat.le_refl _))
theorem m_X3_steer_102 (N : Nat) (σ : CS) : Mono (CS.hs σ) (f_X3_steer_102 N σ ) := by
  unfold f_X3_steer_102
  exact (mono_some (Nat.le_refl _))
theorem m_X3_steer_133 (N : Nat) (σ : CS) : Mono (CS.hs σ) (f_X3_steer_133 N σ ) := by
  unfold f_X3_steer_133
  exact (mono_some (Nat.le_refl _))
theorem m_X3_steer_174 (N : Nat) (σ : CS) : Mono (CS.hs σ) (f_X3_steer_174 N σ ) := by
  unfold f_X3_steer_174
  exact (mono_some (Nat.le_refl _))
theorem m_X3_steer (N : Nat) (σ : CS) (x1 : Int32) (x2 : Int32) : Mono (CS.hs σ) (f_X3_steer N σ x1 x2) := by
  unfold f_X3_steer
  exact (mono_ite (mono_some (Nat.le_refl _)) (mono_ite (mono_bind (m_X3_pop N σ) (fun p4 => (mono_ite (mono_bind (m_X3_goIf N p4.2 1 x2) (fun p13 => (m_X3_steer_83 N p13.2))) (mono_bind (m_X3_goIf N p4.2 0 x2) (fun p9 => (m_X3_steer_83 N p9.2)))))) (mono_ite (mono_ite (mono_bind (m_X3_keep N σ 1 x2) (fun p23 => (m_X3_steer_102 N p23.2))) (mono_bind (m_X3_keep N σ 0 x2) (fun p19 => (m_X3_steer_102 N p19.2)))) (mono_ite (mono_bind (m_X3_keep N σ 1 x2) (fun p28 => (m_X3_steer_102 N p28.2))) (mono_ite (mono_bind (m_X3_compareCase N σ x2) (fun p33 => (mono_some (Nat.le_refl _)))) (mono_ite (mono_ite (mono_bind (m_X3_goIf N σ 1 x2) (fun p43 => (m_X3_steer_133 N p43.2))) (mono_bind (m_X3_goIf N σ 0 x2) (fun p39 => (m_X3_steer_133 N p39.2)))) (mono_ite (mono_bind (m_X3_fillRow N σ x2) (fun p48 => (mono_some (Nat.le_refl _)))) (mono_ite (mono_ite (mono_bind (m_X3_push N σ 0) (fun p56 => (m_X3_steer_174 N p56.2))) (mono_bind (m_X3_push N σ 1) (fun p60 => (m_X3_steer_174 N p60.2)))) (mono_bind (m_X3_push N σ (gAt (σ.a 59) 720 ((x2 + 2) + (gAt (σ.a 59) 720 x2)))) (fun p66 => (mono_some (Nat.le_refl _))))))))))))
theorem m_X3_step (N : Nat) (σ : CS) : Mono (CS.hs σ) (f_X3_step N σ) := by
  unfold f_X3_step
  exact (mono_ite (mono_some (Nat.le_refl _)) (mono_some (Nat.le_refl _)))
theorem m_X3_note (N : Nat) (σ : CS) (x1 : Int32) (x2 : Int32) : Mono (CS.hs σ) (f_X3_note N σ x1 x2) := by
  unfold f_X3_note
  exact (mono_ite (mono_some (Nat.le_refl _)) (mono_some (Nat.le_refl _)))
theorem m_X3_enter_45 (N : Nat) (σ : CS) (x1 : Int32) (x2 : Int32) (x3 : Int32) (x4 : Nat) : Mono (CS.hs σ) (f_X3_enter_45 N σ x1 x2 x3 x4) := by
  unfold f_X3_enter_45
  exact (mono_ite (mono_some (Nat.le_refl _)) mono_none)
theorem m_X3_enter (N : Nat) (σ : CS) (x1 : Int32) (x2 : Int32) : Mono (CS.hs σ) (f_X3_enter N σ x1 x2) := by
  unfold f_X3_enter
  exact (mono_ite (mono_oc (mono_le (Nat.le_succ _) (mono_bind (m_X2_init N (CS.new σ 1) (CS.hs σ)) (fun p5 => (mono_ite (mono_ite (m_X3_enter_45 N (CS.setR p5.2 61 (((if (23 : Int32) < (σ.i 67) then (23 : Int32) else (σ.i 67)) : Int32).toNatClampNeg) (some (CS.hs σ))) x1 x2 (if (23 : Int32) < (σ.i 67) then (23 : Int32) else (σ.i 67)) (CS.hs σ)) mono_none) mono_none)))) (fun a3 => (m_X3_enter_45 N σ x1 x2 (if (23 : Int32) < (σ.i 67) then (23 : Int32) else (σ.i 67)) a3))) mono_none)
theorem m_X3_openOne (N : Nat) (σ : CS) (x1 : Int32) : Mono (CS.hs σ) (f_X3_openOne N σ x1) := by
  unfold f_X3_openOne
  exact (mono_ite (mono_ite (mono_bind (m_X3_note N σ 1 x1) (fun p5 => (mono_some (Nat.le_refl _)))) (mono_some (Nat.le_refl _))) (mono_bind (m_X3_raise N σ (gAt (σ.a 11) 8 x1) x1) (fun p10 => (mono_some (Nat.le_refl _)))))
theorem m_X3_act (N : Nat) (σ : CS) (x1 : Int32) (x2 : Int32) : Mono (CS.hs σ) (f_X3_act N σ x1 x2) := by
  unfold f_X3_act
  exact (mono_ite (mono_bind (m_X3_step N σ) (fun p2 => (mono_some (Nat.le_refl _)))) (mono_ite (mono_bind (m_X3_pop N σ) (fun p7 => (mono_bind (m_X3_note N p7.2 0 p7.1) (fun p11 => (mono_some (Nat.le_refl _)))))) (mono_ite (mono_bind (m_X3_enter N σ 0 x2) (fun p16 => (mono_bind (m_X3_note N (CS.setI p16.2 71 ((p16.2.i 71) + 1)) 3 x2) (fun p20 => (mono_some (Nat.le_refl _)))))) (mono_ite (mono_bind (m_X3_enter N σ 1 x2) (fun p25 => (mono_some (Nat.le_refl _)))) (mono_ite (mono_bind (m_X3_openOne N σ x2) (fun p30 => (mono_some (Nat.le_refl _)))) (mono_some (Nat.le_refl _)))))))
theorem m_X3_frame_30 (N : Nat) (σ : CS) : Mono (CS.hs σ) (f_X3_frame_30 N σ ) := by
  unfold f_X3_frame_30
  exact (mono_some (Nat.le_refl _))
theorem m_X3_frame (N : Nat) (σ : CS) (x1 : Int32) : Mono (CS.hs σ) (f_X3_frame N σ x1) := by
  unfold f_X3_frame
  exact (mono_ite (m_X3_frame_30 N σ) (mono_ite (m_X3_frame_30 N σ) (mono_ite (m_X3_frame_30 N σ) (mono_ite (mono_oc (mono_some (Nat.le_refl _)) (fun a6 => (mono_some (Nat.le_refl _)))) mono_none))))
theorem m_X3_throwAgain (N : Nat) (σ : CS) (x1 : Option Nat) : Mono (CS.hs σ) (f_X3_throwAgain N σ x1) := by
  unfold f_X3_throwAgain
  exact (mono_oc (mono_some (Nat.le_refl _)) (fun a2 => (mono_ite (mono_oc (mono_bind (m_X3_go N (CS.setW σ none) 4 0 0) (fun p6 => (mono_some (Nat.le_refl _)))) (fun a5 => (mono_bind (m_X3_go N (CS.setW σ (some a5)) 4 0 0) (fun p10 => (mono_some (Nat.le_refl _)))))) mono_none)))
theorem m_X3_resume (N : Nat) (σ : CS) (x1 : Option Nat) : Mono (CS.hs σ) (f_X3_resume N σ x1) := by
  unfold f_X3_resume
  exact (mono_oc (mono_some (Nat.le_refl _)) (fun a2 => (mono_ite (mono_oc (mono_bind (m_X3_go N (CS.setW (CS.setI σ 67 ((σ.i 67) - 1)) none) (CS.o (CS.setW (CS.setI σ 67 ((σ.i 67) - 1)) none) a2 5) (CS.o (CS.setW (CS.setI σ 67 ((σ.i 67) - 1)) none) a2 6) (CS.o (CS.setW (CS.setI σ 67 ((σ.i 67) - 1)) none) a2 7)) (fun p6 => (mono_some (Nat.le_refl _)))) (fun a5 => (mono_bind (m_X3_go N (CS.setW (CS.setI σ 67 ((σ.i 67) - 1)) (some a5)) (CS.o (CS.setW (CS.setI σ 67 ((σ.i 67) - 1)) (some a5)) a2 5) (CS.o (CS.setW (CS.setI σ 67 ((σ.i 67) - 1)) (some a5)) a2 6) (CS.o (CS.setW (CS.setI σ 67 ((σ.i 67) - 1)) (some a5)) a2 7)) (fun p10 => (mono_some (Nat.le_refl _)))))) mono_none)))
theorem m_X3_handle (N : Nat) (σ : CS) (x1 : Int32) (x2 : Int32) (x3 : Option Nat) : Mono (CS.hs σ) (f_X3_handle N σ x1 x2 x3) := by
  unfold f_X3_handle
  exact (mono_oc (mono_some (Nat.le_refl _)) (fun a2 => (mono_ite (mono_oc (mono_some (Nat.le_refl _)) (fun a5 => (mono_ite (mono_bind (m_X3_throwAgain N σ (some a2)) (fun p22 => (mono_some (Nat.le_refl _)))) (mono_ite (mono_oc mono_none (fun a20 => (mono_ite (mono_some (Nat.le_refl _)) mono_none))) (mono_oc mono_none (fun a9 => (mono_ite (mono_bind (m_X10_isUnder N σ (CS.o σ a9 2) (x2 - x2 / 16 * 16)) (fun p11 => (mono_bind (m_X3_goIf N p11.2 p11.1 (x2 / 16)) (fun p15 => (mono_some (Nat.le_refl _)))))) mono_none))))))) mono_none)))
theorem m_X3_turn (N : Nat) (σ : CS) (x1 : Int32) (x2 : Int32) : Mono (CS.hs σ) (f_X3_turn N σ x1 x2) := by
  unfold f_X3_turn
  exact (mono_ite (mono_bind (m_X3_frame N σ ((σ.i 67) - 1)) (fun p2 => (mono_oc (mono_bind (m_X3_resume N p2.2 none) (fun p8 => (mono_some (Nat.le_refl _)))) (fun a7 => (mono_bind (m_X3_resume N p2.2 (some a7)) (fun p12 => (mono_some (Nat.le_refl _)))))))) (mono_ite (mono_bind (m_X3_go N σ 1 0 x2) (fun p17 => (mono_some (Nat.le_refl _)))) (mono_ite (mono_bind (m_X3_pop N σ) (fun p22 => (mono_bind (m_X3_go N p22.2 2 p22.1 x2) (fun p26 => (mono_some (Nat.le_refl _)))))) (mono_ite (mono_bind (m_X3_pop N σ) (fun p31 => (mono_bind (m_X3_go N p31.2 3 p31.1 0) (fun p35 => (mono_some (Nat.le_refl _)))))) (mono_ite (mono_bind (m_X3_pop N σ) (fun p40 => (mono_bind (m_X3_raise N p40.2 x2 p40.1) (fun p44 => (mono_some (Nat.le_refl _)))))) (mono_ite (mono_bind (m_X3_frame N σ x2) (fun p49 => (mono_oc (mono_bind (m_X3_throwAgain N p49.2 none) (fun p55 => (mono_some (Nat.le_refl _)))) (fun a54 => (mono_bind (m_X3_throwAgain N p49.2 (some a54)) (fun p59 => (mono_some (Nat.le_refl _)))))))) (mono_bind (m_X3_frame N σ ((σ.i 67) - 1)) (fun p63 => (mono_oc (mono_bind (m_X3_handle N p63.2 x1 x2 none) (fun p69 => (mono_some (Nat.le_refl _)))) (fun a68 => (mono_bind (m_X3_handle N p63.2 x1 x2 (some a68)) (fun p73 => (mono_some (Nat.le_refl _))))))))))))))
theorem m_X3_instruction (N : Nat) (σ : CS) : Mono (CS.hs σ) (f_X3_instruction N σ) := by
  unfold f_X3_instruction
  exact (mono_ite (mono_ite (mono_ite (mono_ite (mono_bind (m_X3_turn N (CS.setI σ 66 ((σ.i 66) + 1)) (gAt (σ.a 15) 1200 (σ.i 66)) (gAt (σ.a 16) 1200 (σ.i 66))) (fun p7 => (mono_some (Nat.le_refl _)))) (mono_bind (m_X3_act N (CS.setI σ 66 ((σ.i 66) + 1)) (gAt (σ.a 15) 1200 (σ.i 66)) (gAt (σ.a 16) 1200 (σ.i 66))) (fun p11 => (mono_some (Nat.le_refl _))))) (mono_bind (m_X3_steer N (CS.setI σ 66 ((σ.i 66) + 1)) (gAt (σ.a 15) 1200 (σ.i 66)) (gAt (σ.a 16) 1200 (σ.i 66))) (fun p15 => (mono_some (Nat.le_refl _))))) (mono_bind (m_X3_combine N (CS.setI σ 66 ((σ.i 66) + 1)) (gAt (σ.a 15) 1200 (σ.i 66))) (fun p19 => (mono_some (Nat.le_refl _))))) (mono_bind (m_X3_move N (CS.setI σ 66 ((σ.i 66) + 1)) (gAt (σ.a 15) 1200 (σ.i 66)) (gAt (σ.a 16) 1200 (σ.i 66))) (fun p23 => (mono_some (Nat.le_refl _)))))
theorem m_X3_arrive_48 (N : Nat) (σ : CS) : Mono (CS.hs σ) (f_X3_arrive_48 N σ ) := by
  unfold f_X3_arrive_48
  exact (mono_some (Nat.le_refl _))
theorem m_X3_arrive (N : Nat) (σ : CS) : Mono (CS.hs σ) (f_X3_arrive N σ) := by
  unfold f_X3_arrive
  exact (mono_ite (mono_some (Nat.le_refl _)) (mono_ite (mono_some (Nat.le_refl _)) (mono_ite (mono_bind (m_X3_push N σ (σ.i 74)) (fun p5 => (m_X3_arrive_48 N p5.2))) (m_X3_arrive_48 N σ))))
theorem m_X8_suppress (N : Nat) (σ : CS) (x0 : Nat) (x1 : Int32) (x2 : Int32) : Mono (CS.hs σ) (f_X8_suppress N σ x0 x1 x2) := by
  unfold f_X8_suppress
  exact (mono_ite (mono_ite (mono_some (Nat.le_refl _)) (mono_ite (mono_ite (mono_some (Nat.le_refl _)) mono_none) mono_none)) mono_none)
theorem m_X3_closeOne_50 (N : Nat) (σ : CS) (x1 : Int32) (x2 : Int32) : Mono (CS.hs σ) (f_X3_closeOne_50 N σ x1 x2) := by
  unfold f_X3_closeOne_50
  exact (mono_bind (m_X3_raise N σ x2 x1) (fun p8 => (mono_some (Nat.le_refl _))))
theorem m_X3_closeOne (N : Nat) (σ : CS) (x1 : Int32) : Mono (CS.hs σ) (f_X3_closeOne N σ x1) := by
  unfold f_X3_closeOne
  exact (mono_bind (m_X3_note N σ 2 x1) (fun p2 => (mono_ite (mono_ite (mono_oc (m_X3_closeOne_50 N p2.2 x1 (gAt (σ.a 12) 8 x1)) (fun a13 => (mono_oc mono_none (fun a15 => (mono_ite (mono_bind (m_X8_suppress N p2.2 a15 (gAt (σ.a 12) 8 x1) x1) (fun p18 => (mono_some (Nat.le_refl _)))) mono_none))))) (m_X3_closeOne_50 N p2.2 x1 (gAt (σ.a 12) 8 x1))) (mono_some (Nat.le_refl _)))))
theorem m_X3_begin (N : Nat) (σ : CS) (x1 : Nat) (x2 : Int32) : Mono (CS.hs σ) (f_X3_begin N σ x1 x2) := by
  unfold f_X3_begin
  exact (mono_ite (mono_some (Nat.le_refl _)) mono_none)
theorem mb_X3_leaveBody_7 (N : Nat) (K : CS → Nat → Int32 → Option (Unit × CS)) (hMK : ∀ (σ : CS) (x1 : Nat) (x2 : Int32), Mono (CS.hs σ) (K σ x1 x2)) (σ : CS) (x1 : Nat) (x2 : Int32) : Mono (CS.hs σ) (b_X3_leaveBody_7 N K σ x1 x2) := by
  unfold b_X3_leaveBody_7
  exact (mono_ite (mono_ite (mono_ite (mono_oc (mono_bind (m_X3_begin N (CS.setOt (CS.setO (CS.setI σ 68 (CS.o σ x1 3)) x1 0 2) x1 none) x1 (CS.o (CS.setOt (CS.setO (CS.setI σ 68 (CS.o σ x1 3)) x1 0 2) x1 none) x1 1)) (fun p6 => (mono_some (Nat.le_refl _)))) (fun a5 => (mono_bind (m_X3_begin N (CS.setOt (CS.setO (CS.setI σ 68 (CS.o σ x1 3)) x1 0 2) x1 (some a5)) x1 (CS.o (CS.setOt (CS.setO (CS.setI σ 68 (CS.o σ x1 3)) x1 0 2) x1 (some a5)) x1 1)) (fun p10 => (mono_some (Nat.le_refl _)))))) (mono_some (Nat.le_refl _))) (mono_bind (m_X3_closeOne N σ (gAt (σ.a 63) 320 x2)) (fun p15 => (hMK p15.2 x1 (x2 + (-1)))))) mono_none)
theorem m_X3_leaveBody_7 (N : Nat) : ∀ (n : Nat) (σ : CS) (x1 : Nat) (x2 : Int32), Mono (CS.hs σ) (f_X3_leaveBody_7 N n σ x1 x2)
  | 0, _, _, _ => mono_none
  | n+1, σ, x1, x2 => mb_X3_leaveBody_7 N (f_X3_leaveBody_7 N n) (fun σ x1 x2 => m_X3_leaveBody_7 N n σ x1 x2) σ x1 x2
theorem m_X3_leaveBody (N : Nat) (σ : CS) (x1 : Nat) : Mono (CS.hs σ) (f_X3_leaveBody N σ x1) := by
  unfold f_X3_leaveBody
  exact (m_X3_leaveBody_7 N N σ x1 ((σ.i 68) - 1))
theorem m_X3_enterFinally (N : Nat) (σ : CS) (x1 : Nat) : Mono (CS.hs σ) (f_X3_enterFinally N σ x1) := by
  unfold f_X3_enterFinally
  exact (mono_ite (mono_oc (mono_bind (m_X3_begin N (CS.setO (CS.setO (CS.setO (CS.setOt (CS.setO σ x1 0 3) x1 none) x1 5 (σ.i 73)) x1 6 (σ.i 74)) x1 7 (σ.i 75)) x1 ((CS.o (CS.setO (CS.setO (CS.setO (CS.setOt (CS.setO σ x1 0 3) x1 none) x1 5 (σ.i 73)) x1 6 (σ.i 74)) x1 7 (σ.i 75)) x1 1) + 1)) (fun p4 => (mono_some (Nat.le_refl _)))) (fun a3 => (mono_bind (m_X3_begin N (CS.setO (CS.setO (CS.setO (CS.setOt (CS.setO σ x1 0 3) x1 (some a3)) x1 5 (σ.i 73)) x1 6 (σ.i 74)) x1 7 (σ.i 75)) x1 ((CS.o (CS.setO (CS.setO (CS.setO (CS.setOt (CS.setO σ x1 0 3) x1 (some a3)) x1 5 (σ.i 73)) x1 6 (σ.i 74)) x1 7 (σ.i 75)) x1 1) + 1)) (fun p8 => (mono_some (Nat.le_refl _)))))) mono_none)
theorem m_X3_leaveOne_29 (N : Nat) (σ : CS) : Mono (CS.hs σ) (f_X3_leaveOne_29 N σ ) := by
  unfold f_X3_leaveOne_29
  exact (mono_bind (m_X3_arrive N σ) (fun p7 => (mono_some (Nat.le_refl _))))
theorem m_X3_leaveOne_113 (N : Nat) (σ : CS) : Mono (CS.hs σ) (f_X3_leaveOne_113 N σ ) := by
  unfold f_X3_leaveOne_113
  exact (mono_some (Nat.le_refl _))
theorem m_X3_leaveOne_87 (N : Nat) (σ : CS) (x1 : Nat) : Mono (CS.hs σ) (f_X3_leaveOne_87 N σ x1) := by
  unfold f_X3_leaveOne_87
  exact (mono_ite (mono_ite (mono_bind (m_X3_note N (CS.setI σ 71 ((σ.i 71) - 1)) 4 (CS.o (CS.setI σ 71 ((σ.i 71) - 1)) x1 1)) (fun p17 => (m_X3_leaveOne_113 N p17.2))) (m_X3_leaveOne_113 N σ)) mono_none)
theorem m_X3_leaveOne (N : Nat) (σ : CS) : Mono (CS.hs σ) (f_X3_leaveOne N σ) := by
  unfold f_X3_leaveOne
  exact (mono_bind (m_X3_frame N σ ((σ.i 67) - 1)) (fun p1 => (mono_oc (m_X3_leaveOne_29 N p1.2) (fun a6 => (mono_ite (mono_ite (mono_ite (mono_bind (m_X3_leaveBody N p1.2 a6) (fun p27 => (mono_some (Nat.le_refl _)))) (mono_ite (mono_ite (m_X3_leaveOne_87 N p1.2 a6) (mono_bind (m_X3_enterFinally N p1.2 a6) (fun p23 => (mono_some (Nat.le_refl _))))) (m_X3_leaveOne_87 N p1.2 a6))) mono_none) (m_X3_leaveOne_29 N p1.2))))))
theorem m_X3_perform_148 (N : Nat) (σ : CS) : Mono (CS.hs σ) (f_X3_perform_148 N σ ) := by
  unfold f_X3_perform_148
  exact (mono_some (Nat.le_refl _))
theorem mb_X3_perform_110 (N : Nat) (K : CS → Int32 → Option (Int32 × CS)) (hMK : ∀ (σ : CS) (x3 : Int32), Mono (CS.hs σ) (K σ x3)) (σ : CS) (x3 : Int32) : Mono (CS.hs σ) (b_X3_perform_110 N K σ x3) := by
  unfold b_X3_perform_110
  exact (mono_ite (m_X3_perform_148 N σ) (mono_ite (mono_ite (mono_bind (m_X3_instruction N σ) (fun p9 => (hMK p9.2 (x3 + 1)))) (mono_bind (m_X3_leaveOne N σ) (fun p5 => (hMK p5.2 (x3 + 1))))) (m_X3_perform_148 N σ)))
theorem m_X3_perform_110 (N : Nat) : ∀ (n : Nat) (σ : CS) (x3 : Int32), Mono (CS.hs σ) (f_X3_perform_110 N n σ x3)
  | 0, _, _ => mono_none
  | n+1, σ, x3 => mb_X3_perform_110 N (f_X3_perform_110 N n) (fun σ x3 => m_X3_perform_110 N n σ x3) σ x3
theorem m_X3_perform_35 (N : Nat) (σ : CS) (x1 : Int32) (x2 : Int32) : Mono (CS.hs σ) (f_X3_perform_35 N σ x1 x2) := by
  unfold f_X3_perform_35
  exact (m_X3_perform_110 N N (CS.setI (CS.setW (CS.setI (CS.setI (CS.setI (CS.setI (CS.setI (CS.setI (CS.setI (CS.setI (CS.setI (CS.putA (CS.putA σ 59 (gPut (σ.a 59) 720 0 x1)) 59 (gPut (CS.a (CS.putA σ 59 (gPut (σ.a 59) 720 0 x1)) 59) 720 1 x2)) 65 0) 66 0) 67 0) 68 0) 69 0) 70 0) 71 0) 73 0) 74 0) none) 72 (-1)) 0)
theorem mb_X3_perform_2 (N : Nat) (K : CS → Int32 → Int32 → Int32 → Option (Int32 × CS)) (hMK : ∀ (σ : CS) (x1 : Int32) (x2 : Int32) (x3 : Int32), Mono (CS.hs σ) (K σ x1 x2 x3)) (σ : CS) (x1 : Int32) (x2 : Int32) (x3 : Int32) : Mono (CS.hs σ) (b_X3_perform_2 N K σ x1 x2 x3) := by
  unfold b_X3_perform_2
  exact (mono_ite (m_X3_perform_35 N σ x1 x2) (mono_ite (m_X3_perform_35 N σ x1 x2) (mono_ite (hMK (CS.setA σ 59 ((x3 : Int32).toNatClampNeg) 0) x1 x2 (x3 + 1)) mono_none)))
theorem m_X3_perform_2 (N : Nat) : ∀ (n : Nat) (σ : CS) (x1 : Int32) (x2 : Int32) (x3 : Int32), Mono (CS.hs σ) (f_X3_perform_2 N n σ x1 x2 x3)
  | 0, _, _, _, _ => mono_none
  | n+1, σ, x1, x2, x3 => mb_X3_perform_2 N (f_X3_perform_2 N n) (fun σ x1 x2 x3 => m_X3_perform_2 N n σ x1 x2 x3) σ x1 x2 x3
theorem m_X3_perform (N : Nat) (σ : CS) (x1 : Int32) (x2 : Int32) : Mono (CS.hs σ) (f_X3_perform N σ x1 x2) := by
  unfold f_X3_perform
  exact (m_X3_perform_2 N N σ x1 x2 0)
theorem m_X3_lastThrown (N : Nat) (σ : CS) : Mono (CS.hs σ) (f_X3_lastThrown N σ) := by
  unfold f_X3_lastThrown
  exact (mono_ite (mono_oc (mono_some (Nat.le_refl _)) (fun a3 => (mono_some (Nat.le_refl _)))) (mono_some (Nat.le_refl _)))
theorem m_X3_answer (N : Nat) (σ : CS) (x1 : Int32) : Mono (CS.hs σ) (f_X3_answer N σ x1) := by
  unfold f_X3_answer
  exact (mono_bind (m_X3_lastThrown N σ) (fun p1 => (mono_oc (mono_ite (mono_some (Nat.le_refl _)) (mono_ite (mono_some (Nat.le_refl _)) (mono_ite (mono_ite (mono_some (Nat.le_refl _)) (mono_some (Nat.le_refl _))) (mono_ite (mono_some (Nat.le_refl _)) (mono_ite (mono_some (Nat.le_refl _)) (mono_ite (mono_some (Nat.le_refl _)) (mono_some (Nat.le_refl _)))))))) (fun a6 => (mono_ite (mono_some (Nat.le_refl _)) (mono_ite (mono_some (Nat.le_refl _)) (mono_ite (mono_ite (mono_some (Nat.le_refl _)) (mono_some (Nat.le_refl _))) (mono_ite (mono_ite (mono_some (Nat.le_refl _)) mono_none) (mono_ite (mono_ite (mono_some (Nat.le_refl _)) mono_none) (mono_ite (mono_ite (mono_some (Nat.le_refl _)) mono_none) (mono_some (Nat.le_refl _))))))))))))
theorem m_X6_clear (N : Nat) (σ : CS) : Mono (CS.hs σ) (f_X6_clear N σ) := by
  unfold f_X6_clear
  exact (mono_some (Nat.le_refl _))
theorem m_X9_start (N : Nat) (σ : CS) (x1 : Int32) : Mono (CS.hs σ) (f_X9_start N σ x1) := by
  unfold f_X9_start
  exact (mono_bind (m_X9_advance N (CS.setI (CS.setI σ 41 x1) 42 0)) (fun p1 => (mono_some (Nat.le_refl _))))
theorem m_X7_translate_139 (N : Nat) (E1 : CS → Option (Unit × CS)) (E2 : CS → Option (Int32 × CS)) (hm1 : ∀ σ, Mono (CS.hs σ) (E1 σ)) (hm2 : ∀ σ, Mono (CS.hs σ) (E2 σ)) (σ : CS) : Mono (CS.hs σ) (f_X7_translate_139 N E1 E2 σ ) := by
  unfold f_X7_translate_139
  exact (mono_some (Nat.le_refl _))
theorem m_X7_translate (N : Nat) (E1 : CS → Option (Unit × CS)) (E2 : CS → Option (Int32 × CS)) (hm1 : ∀ σ, Mono (CS.hs σ) (E1 σ)) (hm2 : ∀ σ, Mono (CS.hs σ) (E2 σ)) (σ : CS) (x1 : Int32) : Mono (CS.hs σ) (f_X7_translate N E1 E2 σ x1) := by
  unfold f_X7_translate
  exact (mono_bind (m_X0_clear N σ) (fun p1 => (mono_bind (m_X0_newCells N (CS.setI p1.2 50 0) 1) (fun p5 => (mono_bind (m_X4_add N p5.2 97 p5.1 (-1)) (fun p9 => (mono_bind (m_X0_newCells N p9.2 1) (fun p13 => (mono_bind (m_X4_add N p13.2 98 p13.1 (-1)) (fun p17 => (mono_bind (m_X6_clear N p17.2) (fun p21 => (mono_bind (m_X9_start N (CS.setI (CS.setI (CS.setI (CS.setI (CS.setI (CS.setI p21.2 32 0) 33 0) 34 0) 36 1) 37 (-1)) 38 0) x1) (fun p25 => (mono_bind (m_X6_push N p25.2 300 0 (p25.2.i 50)) (fun p29 => (mono_oc (mono_bind (m_X7_turns N E1 E2 hm1 hm2 p29.2 0) (fun p35 => (mono_ite (m_X7_translate_139 N E1 E2 hm1 hm2 p35.2) (mono_bind (m_X1_fail N p35.2 7 (p35.2.i 37)) (fun p40 => (m_X7_translate_139 N E1 E2 hm1 hm2 p40.2)))))) (fun a34 => (mono_bind (m_X7_turns N E1 E2 hm1 hm2 p29.2 0) (fun p44 => (mono_ite (m_X7_translate_139 N E1 E2 hm1 hm2 p44.2) (mono_bind (m_X1_fail N p44.2 7 (p44.2.i 37)) (fun p49 => (m_X7_translate_139 N E1 E2 hm1 hm2 p49.2))))))))))))))))))))))))
theorem m_X10_isFull (N : Nat) (σ : CS) : Mono (CS.hs σ) (f_X10_isFull N σ) := by
  unfold f_X10_isFull
  exact (mono_ite (mono_some (Nat.le_refl _)) (mono_some (Nat.le_refl _)))
theorem m_X10_addKind (N : Nat) (σ : CS) (x1 : Int32) : Mono (CS.hs σ) (f_X10_addKind N σ x1) := by
  unfold f_X10_addKind
  exact (mono_some (Nat.le_refl _))
theorem m_X10_tellResource (N : Nat) (σ : CS) (x1 : Int32) (x2 : Int32) (x3 : Int32) (x4 : Int32) : Mono (CS.hs σ) (f_X10_tellResource N σ x1 x2 x3 x4) := by
  unfold f_X10_tellResource
  exact (mono_some (Nat.le_refl _))
theorem mb_X11_addBytes_3 (N : Nat) (K : CS → Int32 → Int32 → Option (Unit × CS)) (hMK : ∀ (σ : CS) (x1 : Int32) (x2 : Int32), Mono (CS.hs σ) (K σ x1 x2)) (σ : CS) (x1 : Int32) (x2 : Int32) : Mono (CS.hs σ) (b_X11_addBytes_3 N K σ x1 x2) := by
  unfold b_X11_addBytes_3
  exact (mono_ite (mono_some (Nat.le_refl _)) (hMK (CS.setI (CS.putA σ 0 (gPut (σ.a 0) 900 (σ.i 5) (((x1 : Int32).toUInt32 >>> ((x2 : Int32).toUInt32 &&& Int32.toUInt32 31)).toInt32 &&& 255))) 5 ((σ.i 5) + 1)) x1 (x2 + (-8))))
theorem m_X11_addBytes_3 (N : Nat) : ∀ (n : Nat) (σ : CS) (x1 : Int32) (x2 : Int32), Mono (CS.hs σ) (f_X11_addBytes_3 N n σ x1 x2)
  | 0, _, _, _ => mono_none
  | n+1, σ, x1, x2 => mb_X11_addBytes_3 N (f_X11_addBytes_3 N n) (fun σ x1 x2 => m_X11_addBytes_3 N n σ x1 x2) σ x1 x2
theorem m_X11_addBytes (N : Nat) (σ : CS) (x1 : Int32) : Mono (CS.hs σ) (f_X11_addBytes N σ x1) := by
  unfold f_X11_addBytes
  exact (m_X11_addBytes_3 N N σ x1 24)
theorem m_X11_feed (N : Nat) (σ : CS) (x1 : Int32) (x2 : Int32) (x3 : Int32) (x4 : Int32) (x5 : Int32) : Mono (CS.hs σ) (f_X11_feed N σ x1 x2 x3 x4 x5) := by
  unfold f_X11_feed
  exact (mono_ite (mono_bind (m_X11_addBytes N σ x1) (fun p2 => (mono_bind (m_X11_addBytes N p2.2 x2) (fun p6 => (mono_bind (m_X11_addBytes N p6.2 x3) (fun p10 => (mono_bind (m_X11_addBytes N p10.2 x4) (fun p14 => (mono_bind (m_X11_addBytes N p14.2 x5) (fun p18 => (mono_some (Nat.le_refl _)))))))))))) (mono_some (Nat.le_refl _)))
theorem m_X11_cut_12 (N : Nat) (σ : CS) : Mono (CS.hs σ) (f_X11_cut_12 N σ ) := by
  unfold f_X11_cut_12
  exact (mono_some (Nat.le_refl _))
theorem m_X11_cut (N : Nat) (σ : CS) (x1 : Int32) : Mono (CS.hs σ) (f_X11_cut N σ x1) := by
  unfold f_X11_cut
  exact (mono_ite (m_X11_cut_12 N σ) (mono_ite (mono_some (Nat.le_refl _)) (m_X11_cut_12 N σ)))
theorem m_X11_kind (N : Nat) (σ : CS) (x1 : Int32) : Mono (CS.hs σ) (f_X11_kind N σ x1) := by
  unfold f_X11_kind
  exact (mono_bind (m_X10_isKind N σ x1) (fun p1 => (mono_ite (mono_some (Nat.le_refl _)) (mono_bind (m_X10_isFull N p1.2) (fun p6 => (mono_ite (mono_bind (m_X10_addKind N p6.2 x1) (fun p11 => (mono_some (Nat.le_refl _)))) (mono_some (Nat.le_refl _))))))))
theorem m_X11_isKindOrNothing_16 (N : Nat) (σ : CS) : Mono (CS.hs σ) (f_X11_isKindOrNothing_16 N σ ) := by
  unfold f_X11_isKindOrNothing_16
  exact (mono_some (Nat.le_refl _))
theorem m_X11_isKindOrNothing (N : Nat) (σ : CS) (x1 : Int32) : Mono (CS.hs σ) (f_X11_isKindOrNothing N σ x1) := by
  unfold f_X11_isKindOrNothing
  exact (mono_ite (m_X11_isKindOrNothing_16 N σ) (mono_bind (m_X10_isKind N σ x1) (fun p2 => (mono_ite (mono_some (Nat.le_refl _)) (m_X11_isKindOrNothing_16 N p2.2)))))
theorem m_X11_resource_19 (N : Nat) (σ : CS) : Mono (CS.hs σ) (f_X11_resource_19 N σ ) := by
  unfold f_X11_resource_19
  exact (mono_some (Nat.le_refl _))
theorem m_X11_resource_38 (N : Nat) (σ : CS) : Mono (CS.hs σ) (f_X11_resource_38 N σ ) := by
  unfold f_X11_resource_38
  exact (mono_some (Nat.le_refl _))
theorem m_X11_resource (N : Nat) (σ : CS) (x1 : Int32) (x2 : Int32) (x3 : Int32) (x4 : Int32) : Mono (CS.hs σ) (f_X11_resource N σ x1 x2 x3 x4) := by
  unfold f_X11_resource
  exact (mono_ite (m_X11_resource_19 N σ) (mono_ite (m_X11_resource_19 N σ) (mono_ite (m_X11_resource_19 N σ) (mono_ite (mono_bind (m_X11_isKindOrNothing N σ x3) (fun p5 => (mono_ite (m_X11_resource_38 N p5.2) (mono_bind (m_X11_isKindOrNothing N p5.2 x4) (fun p10 => (mono_ite (m_X11_resource_38 N p10.2) (mono_bind (m_X10_tellResource N p10.2 x1 x2 x3 x4) (fun p15 => (mono_some (Nat.le_refl _)))))))))) (m_X11_resource_19 N σ)))))
theorem m_X11_asserts_16 (N : Nat) (σ : CS) (x1 : Int32) (x2 : Int32) : Mono (CS.hs σ) (f_X11_asserts_16 N σ x1 x2) := by
  unfold f_X11_asserts_16
  exact (mono_ite (mono_some (Nat.le_refl _)) mono_none)
theorem m_X11_asserts (N : Nat) (σ : CS) (x1 : Int32) : Mono (CS.hs σ) (f_X11_asserts N σ x1) := by
  unfold f_X11_asserts
  exact (mono_ite (m_X11_asserts_16 N σ x1 0) (m_X11_asserts_16 N σ x1 1))
theorem m_X11_read_43 (N : Nat) (E1 : CS → Option (Unit × CS)) (E2 : CS → Option (Int32 × CS)) (hm1 : ∀ σ, Mono (CS.hs σ) (E1 σ)) (hm2 : ∀ σ, Mono (CS.hs σ) (E2 σ)) (σ : CS) : Mono (CS.hs σ) (f_X11_read_43 N E1 E2 σ ) := by
  unfold f_X11_read_43
  exact (mono_ite (mono_some (Nat.le_refl _)) (mono_some (Nat.le_refl _)))
theorem m_X11_read (N : Nat) (E1 : CS → Option (Unit × CS)) (E2 : CS → Option (Int32 × CS)) (hm1 : ∀ σ, Mono (CS.hs σ) (E1 σ)) (hm2 : ∀ σ, Mono (CS.hs σ) (E2 σ)) (σ : CS) : Mono (CS.hs σ) (f_X11_read N E1 E2 σ) := by
  unfold f_X11_read
  exact (mono_bind (m_X7_translate N E1 E2 hm1 hm2 (CS.setI (CS.setI σ 5 0) 8 0) (σ.i 5)) (fun p1 => (mono_ite (m_X11_read_43 N E1 E2 hm1 hm2 (CS.setI (CS.setI p1.2 6 p1.1) 7 1)) (m_X11_read_43 N E1 E2 hm1 hm2 (CS.setI (CS.setI p1.2 6 p1.1) 7 0)))))
theorem m_X11_fault (N : Nat) (σ : CS) : Mono (CS.hs σ) (f_X11_fault N σ) := by
  unfold f_X11_fault
  exact (mono_some (Nat.le_refl _))
theorem m_X11_program_9 (N : Nat) (σ : CS) : Mono (CS.hs σ) (f_X11_program_9 N σ ) := by
  unfold f_X11_program_9
  exact (mono_some (Nat.le_refl _))
theorem m_X11_program (N : Nat) (σ : CS) (x1 : Int32) : Mono (CS.hs σ) (f_X11_program N σ x1) := by
  unfold f_X11_program
  exact (mono_ite (m_X11_program_9 N σ) (mono_ite (mono_ite (mono_some (Nat.le_refl _)) (mono_ite (mono_some (Nat.le_refl _)) (mono_ite (mono_ite (mono_some (Nat.le_refl _)) (mono_some (Nat.le_refl _))) (mono_ite (mono_some (Nat.le_refl _)) (mono_some (Nat.le_refl _)))))) (m_X11_program_9 N σ)))
theorem m_X11_run (N : Nat) (σ : CS) (x1 : Int32) (x2 : Int32) : Mono (CS.hs σ) (f_X11_run N σ x1 x2) := by
  unfold f_X11_run
  exact (mono_ite (mono_some (Nat.le_refl _)) (mono_bind (m_X3_perform N (CS.setI σ 8 1) x1 x2) (fun p2 => (mono_some (Nat.le_refl _)))))
theorem m_X11_ran_10 (N : Nat) (σ : CS) : Mono (CS.hs σ) (f_X11_ran_10 N σ ) := by
  unfold f_X11_ran_10
  exact (mono_some (Nat.le_refl _))
theorem m_X11_ran (N : Nat) (σ : CS) (x1 : Int32) : Mono (CS.hs σ) (f_X11_ran N σ x1) := by
  unfold f_X11_ran
  exact (mono_ite (m_X11_ran_10 N σ) (mono_ite (mono_ite (mono_some (Nat.le_refl _)) (mono_bind (m_X3_answer N σ x1) (fun p4 => (mono_some (Nat.le_refl _))))) (m_X11_ran_10 N σ)))
theorem m_X11_trace_31 (N : Nat) (σ : CS) : Mono (CS.hs σ) (f_X11_trace_31 N σ ) := by
  unfold f_X11_trace_31
  exact (mono_some (Nat.le_refl _))
theorem m_X11_trace (N : Nat) (σ : CS) (x1 : Int32) (x2 : Int32) : Mono (CS.hs σ) (f_X11_trace N σ x1 x2) := by
  unfold f_X11_trace
  exact (mono_ite (m_X11_trace_31 N σ) (mono_ite (m_X11_trace_31 N σ) (mono_ite (m_X11_trace_31 N σ) (mono_ite (m_X11_trace_31 N σ) (mono_ite (mono_some (Nat.le_refl _)) (m_X11_trace_31 N σ))))))
theorem m_X11_suppressed_44 (N : Nat) (σ : CS) : Mono (CS.hs σ) (f_X11_suppressed_44 N σ ) := by
  unfold f_X11_suppressed_44
  exact (mono_some (Nat.le_refl _))
theorem m_X11_suppressed_19 (N : Nat) (σ : CS) (x1 : Int32) (x2 : Int32) (x3 : Option Nat) : Mono (CS.hs σ) (f_X11_suppressed_19 N σ x1 x2 x3) := by
  unfold f_X11_suppressed_19
  exact (mono_oc (m_X11_suppressed_44 N σ) (fun a3 => (mono_ite (m_X11_suppressed_44 N σ) (mono_ite (mono_ite (m_X11_suppressed_44 N σ) (mono_ite (m_X11_suppressed_44 N σ) (mono_ite (mono_ite (mono_ite (mono_some (Nat.le_refl _)) mono_none) (mono_ite (mono_some (Nat.le_refl _)) mono_none)) (m_X11_suppressed_44 N σ)))) mono_none))))
theorem m_X11_suppressed (N : Nat) (σ : CS) (x1 : Int32) (x2 : Int32) : Mono (CS.hs σ) (f_X11_suppressed N σ x1 x2) := by
  unfold f_X11_suppressed
  exact (mono_ite (m_X11_suppressed_19 N σ x1 x2 none) (mono_bind (m_X3_lastThrown N σ) (fun p16 => (mono_oc (m_X11_suppressed_19 N p16.2 x1 x2 none) (fun a21 => (m_X11_suppressed_19 N p16.2 x1 x2 (some a21)))))))
theorem m_X11_under_22 (N : Nat) (σ : CS) : Mono (CS.hs σ) (f_X11_under_22 N σ ) := by
  unfold f_X11_under_22
  exact (mono_some (Nat.le_refl _))
theorem m_X11_under (N : Nat) (σ : CS) (x1 : Int32) (x2 : Int32) : Mono (CS.hs σ) (f_X11_under N σ x1 x2) := by
  unfold f_X11_under
  exact (mono_bind (m_X10_isKind N σ x1) (fun p1 => (mono_ite (m_X11_under_22 N p1.2) (mono_bind (m_X10_isKind N p1.2 x2) (fun p6 => (mono_ite (m_X11_under_22 N p6.2) (mono_bind (m_X10_isUnder N p6.2 x1 x2) (fun p11 => (mono_ite (mono_some (Nat.le_refl _)) (mono_some (Nat.le_refl _)))))))))))
end
section
theorem z_vpn {x : Int32} {n : Nat} (hn : n < 2 ^ 31) (h1 : ¬ x < 0) (h2 : ¬ Int32.ofNat n ≤ x) : ib x n := by
  have a := Int32.le_iff_toInt_le.mp (Int32.not_lt.mp h1)
  have b := Int32.lt_iff_toInt_lt.mp (Int32.not_le.mp h2)
  have e8 : (Int32.ofNat n).toInt = n := nI_toInt hn
  rw [z_t0] at a
  rw [e8] at b
  exact ⟨a, b⟩
theorem z_vpm {x : Int32} {n : Nat} (h1 : x < 0) : ¬ ib x n := by
  intro h
  have a := Int32.lt_iff_toInt_lt.mp h1
  rw [z_t0] at a
  omega
theorem z_vpp {x : Int32} {n : Nat} (hn : n < 2 ^ 31) (h2 : Int32.ofNat n ≤ x) : ¬ ib x n := by
  intro h
  have b := Int32.le_iff_toInt_le.mp h2
  have e8 : (Int32.ofNat n).toInt = n := nI_toInt hn
  rw [e8] at b
  omega
set_option maxHeartbeats 4000000 in
set_option maxRecDepth 100000 in
theorem c_X11_at (l : Launch) (dC : Nat → ClassId) (dI : Nat → Nat → Nat) (sz : Nat) (row : Nat) (kA : ClassId) (n : Nat) (f : Nat → Int32) (i : Int32) (hn : n < 2 ^ 31) : Met l yX11_at wzX11_at ({ frames := 1, cells := 0, slots := 0, locals := 60 }) (va_Pc [.ref row, .int i] (zPre dC dI sz [(row, .inl (kA, n, .inl f))] [(kA, .int)])) (va_Qi (fun (r : Int32) (_ : Unit) => r = gAt f n i) (fun (_ : Unit) (t : State) => zPost dC dI (va_A [(row, .inl (kA, n, .inl f))] sz) [(row, .inl (kA, n, .inl f))] [(kA, .int)] t ∧ t.heap.size = sz) (va_A [(row, .inl (kA, n, .inl f))] sz)) 0 0 (va_A [(row, .inl (kA, n, .inl f))] sz) := by
  refine Met.ofW (cc := cX11_at) (maxL := 2) (ret := (some .int)) (by decide) rfl ?_
  intro p e s m args below meth c s₁ B hml hv
  obtain ⟨rfl, hsz, hZ, hP, hK, hD0⟩ := hv
  have hx := B.exec
  have hb := B.bytes
  have hr := B.returns
  have hlocks := B.notSynchronized
  subst hsz
  have hD := hD0.self (sz := s.heap.size)
  generalize hAe : va_A [(row, .inl (kA, n, .inl f))] s.heap.size = A at hD ⊢
  have hS : va_S A s.heap s.heap [] := va_S.rf
  have hl := lv_entry ([.ref row, .int i]) (n := 2) (Nat.le_of_ble_eq_true rfl)
  rw [lg_entry_eq]
  generalize (lg_sl ([.ref row, .int i]) ++ List.replicate (2 - (lg_sl ([.ref row, .int i])).length) Slot.unset).toArray = ls at hl ⊢
  have hl : lv_has ls 2 [(0, .ref row), (1, .int i)] := hl
  refine lv_iload_n hx hb dX11_at_0 rfl (lv_at hl 1 rfl) ?_
  refine lv_if_lt (tgt := 16) hx hb dX11_at_1 (by decide) (fun c1 => ?_) (fun c1 => ?_)
  · refine lv_iconst (v := 0) hx hb dX11_at_16 (by decide) ?_
    exact W.iret (v := 0) hx hb hr (fun t ht hW => ⟨⟨0, (), rfl, (if_neg (z_vpm c1)).symm, ⟨by rw [ht]; exact hP, va_K.moved hW.alike hK, hD⟩, by rw [ht]⟩, hS.F ht⟩) hS.2.2 dX11_at_17
  · refine lv_iload_n hx hb dX11_at_4 rfl (lv_at hl 1 rfl) ?_
    refine lv_aload_n hx hb dX11_at_5 rfl (lv_at hl 0 rfl) ?_
    refine va_alen (v := Int32.ofNat n) hx hb hK hP 0 0 rfl rfl rfl dX11_at_6 ?_
    refine lv_icmp_ge (tgt := 16) hx hb dX11_at_7 (by decide) (fun c2 => ?_) (fun c2 => ?_)
    · refine lv_iconst (v := 0) hx hb dX11_at_16 (by decide) ?_
      exact W.iret (v := 0) hx hb hr (fun t ht hW => ⟨⟨0, (), rfl, (if_neg (z_vpp hn c2)).symm, ⟨by rw [ht]; exact hP, va_K.moved hW.alike hK, hD⟩, by rw [ht]⟩, hS.F ht⟩) hS.2.2 dX11_at_17
    · have hvp := z_vpn hn c1 c2
      refine lv_aload_n hx hb dX11_at_10 rfl (lv_at hl 0 rfl) ?_
      refine lv_iload_n hx hb dX11_at_11 rfl (lv_at hl 1 rfl) ?_
      refine va_iald hx hb hK hP 0 0 rfl rfl (ib_in hvp) dX11_at_12 ?_
      refine lv_goto (tgt := 17) hx hb dX11_at_13 (by decide) ?_
      exact W.iret (v := (f i.toNatClampNeg)) hx hb hr (fun t ht hW => ⟨⟨(f i.toNatClampNeg), (), rfl, (if_pos hvp).symm, ⟨by rw [ht]; exact hP, va_K.moved hW.alike hK, hD⟩, by rw [ht]⟩, hS.F ht⟩) hS.2.2 dX11_at_17
set_option maxHeartbeats 4000000 in
set_option maxRecDepth 100000 in
theorem c_X11_put (l : Launch) (dC : Nat → ClassId) (dI : Nat → Nat → Nat) (sz : Nat) (row : Nat) (kA : ClassId) (n : Nat) (f : Nat → Int32) (i : Int32) (v : Int32) (hn : n < 2 ^ 31) : Met l yX11_put wzX11_put ({ frames := 1, cells := 0, slots := 0, locals := 60 }) (va_Pc [.ref row, .int i, .int v] (zPre dC dI sz [(row, .inl (kA, n, .inl f))] [(kA, .int)])) (va_Qv (fun (_ : Unit) => True) (fun (_ : Unit) (t : State) => zPost dC dI (va_A [(row, .inl (kA, n, .inl f))] sz) [(row, .inl (kA, n, .inl (gPut f n i v)))] [(kA, .int)] t ∧ t.heap.size = sz) (va_A [(row, .inl (kA, n, .inl f))] sz)) 0 0 (va_A [(row, .inl (kA, n, .inl f))] sz) := by
  refine Met.ofW (cc := cX11_put) (maxL := 3) (ret := none) (by decide) rfl ?_
  intro p e s m args below meth c s₁ B hml hv
  obtain ⟨rfl, hsz, hZ, hP, hK, hD0⟩ := hv
  have hx := B.exec
  have hb := B.bytes
  have hr := B.returns
  have hlocks := B.notSynchronized
  subst hsz
  have hD := hD0.self (sz := s.heap.size)
  generalize hAe : va_A [(row, .inl (kA, n, .inl f))] s.heap.size = A at hD ⊢
  have hS : va_S A s.heap s.heap [] := va_S.rf
  have hl := lv_entry ([.ref row, .int i, .int v]) (n := 3) (Nat.le_of_ble_eq_true rfl)
  rw [lg_entry_eq]
  generalize (lg_sl ([.ref row, .int i, .int v]) ++ List.replicate (3 - (lg_sl ([.ref row, .int i, .int v])).length) Slot.unset).toArray = ls at hl ⊢
  have hl : lv_has ls 3 [(0, .ref row), (1, .int i), (2, .int v)] := hl
  refine lv_iload_n hx hb dX11_put_0 rfl (lv_at hl 1 rfl) ?_
  refine lv_if_lt (tgt := 14) hx hb dX11_put_1 (by decide) (fun c1 => ?_) (fun c1 => ?_)
  · rw [show gPut f n i v = f from if_neg (z_vpm c1)]
    exact W.vret hx hb hr (fun t ht hW => ⟨⟨(), rfl, trivial, ⟨by rw [ht]; exact hP, va_K.moved hW.alike hK, hD⟩, by rw [ht]⟩, hS.F ht⟩) hS.2.2 dX11_put_14
  · refine lv_iload_n hx hb dX11_put_4 rfl (lv_at hl 1 rfl) ?_
    refine lv_aload_n hx hb dX11_put_5 rfl (lv_at hl 0 rfl) ?_
    refine va_alen (v := Int32.ofNat n) hx hb hK hP 0 0 rfl rfl rfl dX11_put_6 ?_
    refine lv_icmp_ge (tgt := 14) hx hb dX11_put_7 (by decide) (fun c2 => ?_) (fun c2 => ?_)
    · rw [show gPut f n i v = f from if_neg (z_vpp hn c2)]
      exact W.vret hx hb hr (fun t ht hW => ⟨⟨(), rfl, trivial, ⟨by rw [ht]; exact hP, va_K.moved hW.alike hK, hD⟩, by rw [ht]⟩, hS.F ht⟩) hS.2.2 dX11_put_14
    · have hvp := z_vpn hn c1 c2
      rw [show gPut f n i v = upd f i.toNatClampNeg v from if_pos hvp]
      refine lv_aload_n hx hb dX11_put_10 rfl (lv_at hl 0 rfl) ?_
      refine lv_iload_n hx hb dX11_put_11 rfl (lv_at hl 1 rfl) ?_
      refine lv_iload_n hx hb dX11_put_12 rfl (lv_at hl 2 rfl) ?_
      refine ce_iast hx hb hK hP hD hS 0 0 rfl rfl (ib_in hvp) dX11_put_13 (fun H locs hP hD hS hz => ?_)
      exact W.vret hx hb hr (fun t ht hW => ⟨⟨(), rfl, trivial, ⟨by rw [ht]; exact hP, va_K.moved hW.alike hK, hD⟩, by rw [ht]; exact hz⟩, hS.F ht⟩) hS.2.2 dX11_put_14
end
section
def cMF (l : Launch) (dC : Nat → ClassId) (dI : Nat → Nat → Nat) (Q : CQ) (d : Nat) (E : CS → Option (Unit × CS)) : Prop := ∀ (σ : CS) (R : Unit × CS), E σ = some R → Met l yX1_factor wzX1_factor ({ frames := (10 + 40 * d), cells := CS.hs R.2 - CS.hs σ, slots := 17 * (CS.hs R.2 - CS.hs σ), locals := 60 * (10 + 40 * d) }) (va_Pc [.ref (Q.o 3)] (zPre dC dI (CS.hs σ) (cW Q σ) (cT Q))) (va_Qv (fun (_ : Unit) => True) (fun (_ : Unit) (t : State) => zPost dC dI (va_A (cW Q σ) (CS.hs σ)) (cW Q R.2) (cT Q) t ∧ t.heap.size = CS.hs R.2) (va_A (cW Q σ) (CS.hs σ))) (CS.hs R.2 - CS.hs σ) (17 * (CS.hs R.2 - CS.hs σ)) (va_A (cW Q σ) (CS.hs σ))
def cMO (l : Launch) (dC : Nat → ClassId) (dI : Nat → Nat → Nat) (Q : CQ) (d : Nat) (E : CS → Option (Int32 × CS)) : Prop := ∀ (σ : CS) (R : Int32 × CS), E σ = some R → Met l yX1_one wzX1_one ({ frames := (10 + 40 * d), cells := CS.hs R.2 - CS.hs σ, slots := 17 * (CS.hs R.2 - CS.hs σ), locals := 60 * (10 + 40 * d) }) (va_Pc [.ref (Q.o 3)] (zPre dC dI (CS.hs σ) (cW Q σ) (cT Q))) (va_Qi (fun (r : Int32) (_ : Unit) => r = R.1) (fun (_ : Unit) (t : State) => zPost dC dI (va_A (cW Q σ) (CS.hs σ)) (cW Q R.2) (cT Q) t ∧ t.heap.size = CS.hs R.2) (va_A (cW Q σ) (CS.hs σ))) (CS.hs R.2 - CS.hs σ) (17 * (CS.hs R.2 - CS.hs σ)) (va_A (cW Q σ) (CS.hs σ))
end
section
theorem k_X0_clear_fieldLink_RX0_27_SR_Code_size_I : Cond.fieldLink RX0 27 "StatementRules2$Code" "size" "I" ∈ wzX0_clear := List.mem_cons_of_mem _ (List.mem_append_left _ (List.mem_of_getElem? (i := 0) rfl))
theorem i_X0_clear_X0 : ∀ w ∈ wsX00, w ∈ wzX0_clear := fun _ h => List.mem_cons_of_mem _ (List.mem_append_right _ (List.mem_append_left _ (h)))
theorem k_X0_clear_fieldLink_RX0_31_SR_Code_targetCount_I : Cond.fieldLink RX0 31 "StatementRules2$Code" "targetCount" "I" ∈ wzX0_clear := List.mem_cons_of_mem _ (List.mem_append_left _ (List.mem_of_getElem? (i := 1) rfl))
theorem k_X0_clear_fieldLink_RX0_34_SR_Code_caseCount_I : Cond.fieldLink RX0 34 "StatementRules2$Code" "caseCount" "I" ∈ wzX0_clear := List.mem_cons_of_mem _ (List.mem_append_left _ (List.mem_of_getElem? (i := 2) rfl))
theorem k_X0_clear_fieldLink_RX0_37_SR_Code_cellCount_I : Cond.fieldLink RX0 37 "StatementRules2$Code" "cellCount" "I" ∈ wzX0_clear := List.mem_cons_of_mem _ (List.mem_append_left _ (List.mem_of_getElem? (i := 3) rfl))
theorem k_X0_clear_fieldLink_RX0_40_SR_Code_statements_I : Cond.fieldLink RX0 40 "StatementRules2$Code" "statements" "I" ∈ wzX0_clear := List.mem_cons_of_mem _ (List.mem_append_left _ (List.mem_of_getElem? (i := 4) rfl))
theorem k_X0_clear_fieldLink_RX0_43_SR_Code_toldNames_I : Cond.fieldLink RX0 43 "StatementRules2$Code" "toldNames" "I" ∈ wzX0_clear := List.mem_cons_of_mem _ (List.mem_append_left _ (List.mem_of_getElem? (i := 5) rfl))
theorem k_X0_clear_fieldLink_RX0_46_SR_Code_jumps_I : Cond.fieldLink RX0 46 "StatementRules2$Code" "jumps" "I" ∈ wzX0_clear := List.mem_cons_of_mem _ (List.mem_append_left _ (List.mem_of_getElem? (i := 6) rfl))
theorem k_X0_clear_fieldLink_RX0_49_SR_Code_endReached_Z : Cond.fieldLink RX0 49 "StatementRules2$Code" "endReached" "Z" ∈ wzX0_clear := List.mem_cons_of_mem _ (List.mem_append_left _ (List.mem_of_getElem? (i := 7) rfl))
set_option maxHeartbeats 4000000 in
set_option maxRecDepth 100000 in
theorem c_X0_clear (l : Launch) (dC : Nat → ClassId) (dI : Nat → Nat → Nat) (Q : CQ) (N : Nat) (σ : CS) (R : Unit × CS) (hf : f_X0_clear N σ = some R) : Met l yX0_clear wzX0_clear ({ frames := 1, cells := CS.hs R.2 - CS.hs σ, slots := 17 * (CS.hs R.2 - CS.hs σ), locals := 60 * 1 }) (va_Pc [.ref (Q.o 2)] (zPre dC dI (CS.hs σ) (cW Q σ) (cT Q))) (va_Qv (fun (_ : Unit) => True) (fun (_ : Unit) (t : State) => zPost dC dI (va_A (cW Q σ) (CS.hs σ)) (cW Q R.2) (cT Q) t ∧ t.heap.size = CS.hs R.2) (va_A (cW Q σ) (CS.hs σ))) (CS.hs R.2 - CS.hs σ) (17 * (CS.hs R.2 - CS.hs σ)) (va_A (cW Q σ) (CS.hs σ)) := by
  refine Met.ofW (cc := cX0_clear) (maxL := 1) (ret := none) (by decide) rfl ?_
  intro p e s m args below meth c s₁ B hml hv
  obtain ⟨rfl, hsz, hZ, hP, hK, hD0⟩ := hv
  have hx := B.exec
  have hb := B.bytes
  have hr := B.returns
  have hts := atoms_spec (ws := wzX0_clear) B.pre
  have hown : s.vm.findClass RX0 = some m.cls := findClass_of_methodNamed B.named
  have hlocks := B.notSynchronized
  have hD := hD0.self (sz := CS.hs σ)
  generalize hAe : va_A (cW Q σ) (CS.hs σ) = A at hD ⊢
  have hA : ∀ q : Nat, s.heap.size ≤ q → A q := fun q h => by rw [← hAe]; exact Or.inr (hsz ▸ h)
  have hC : CP dC dI Q A s.heap σ s.heap [] := ⟨hP, hD, va_S.rf, hsz⟩
  have h0 : CS.hs σ ≤ CS.hs σ := Nat.le_refl _
  have hl := lv_entry ([.ref (Q.o 2)]) (n := 1) (Nat.le_of_ble_eq_true rfl)
  rw [lg_entry_eq]
  generalize (lg_sl ([.ref (Q.o 2)]) ++ List.replicate (1 - (lg_sl ([.ref (Q.o 2)])).length) Slot.unset).toArray = ls at hl ⊢
  have hl : lv_has ls 1 [(0, .ref (Q.o 2))] := hl
  unfold f_X0_clear at hf
  refine W.widen (k := CS.hs σ - CS.hs σ) (n := 17 * (CS.hs σ - CS.hs σ)) (Nat.zero_le _) (Nat.zero_le _) ?_
  refine lv_aload_n hx hb dX0_clear_0 rfl (lv_at hl 0 rfl) ?_
  refine lv_iconst (v := 0) hx hb dX0_clear_1 (by decide) ?_
  refine cP_20 (v := 0) hx hb hts i_X0_clear_X0 hown hK hC (hts (.fieldLink RX0 27 "StatementRules2$Code" "size" "I") k_X0_clear_fieldLink_RX0_27_SR_Code_size_I) (fun _ q9 => q9) dX0_clear_2 (fun H locs hC => ?_)
  refine lv_aload_n hx hb dX0_clear_5 rfl (lv_at hl 0 rfl) ?_
  refine lv_iconst (v := 0) hx hb dX0_clear_6 (by decide) ?_
  refine cP_21 (v := 0) hx hb hts i_X0_clear_X0 hown hK hC (hts (.fieldLink RX0 31 "StatementRules2$Code" "targetCount" "I") k_X0_clear_fieldLink_RX0_31_SR_Code_targetCount_I) (fun _ q9 => q9) dX0_clear_7 (fun H locs hC => ?_)
  refine lv_aload_n hx hb dX0_clear_10 rfl (lv_at hl 0 rfl) ?_
  refine lv_iconst (v := 0) hx hb dX0_clear_11 (by decide) ?_
  refine cP_22 (v := 0) hx hb hts i_X0_clear_X0 hown hK hC (hts (.fieldLink RX0 34 "StatementRules2$Code" "caseCount" "I") k_X0_clear_fieldLink_RX0_34_SR_Code_caseCount_I) (fun _ q9 => q9) dX0_clear_12 (fun H locs hC => ?_)
  refine lv_aload_n hx hb dX0_clear_15 rfl (lv_at hl 0 rfl) ?_
  refine lv_iconst (v := 0) hx hb dX0_clear_16 (by decide) ?_
  refine cP_23 (v := 0) hx hb hts i_X0_clear_X0 hown hK hC (hts (.fieldLink RX0 37 "StatementRules2$Code" "cellCount" "I") k_X0_clear_fieldLink_RX0_37_SR_Code_cellCount_I) (fun _ q9 => q9) dX0_clear_17 (fun H locs hC => ?_)
  refine lv_aload_n hx hb dX0_clear_20 rfl (lv_at hl 0 rfl) ?_
  refine lv_iconst (v := 0) hx hb dX0_clear_21 (by decide) ?_
  refine cP_24 (v := 0) hx hb hts i_X0_clear_X0 hown hK hC (hts (.fieldLink RX0 40 "StatementRules2$Code" "statements" "I") k_X0_clear_fieldLink_RX0_40_SR_Code_statements_I) (fun _ q9 => q9) dX0_clear_22 (fun H locs hC => ?_)
  refine lv_aload_n hx hb dX0_clear_25 rfl (lv_at hl 0 rfl) ?_
  refine lv_iconst (v := 0) hx hb dX0_clear_26 (by decide) ?_
  refine cP_25 (v := 0) hx hb hts i_X0_clear_X0 hown hK hC (hts (.fieldLink RX0 43 "StatementRules2$Code" "toldNames" "I") k_X0_clear_fieldLink_RX0_43_SR_Code_toldNames_I) (fun _ q9 => q9) dX0_clear_27 (fun H locs hC => ?_)
  refine lv_aload_n hx hb dX0_clear_30 rfl (lv_at hl 0 rfl) ?_
  refine lv_iconst (v := 0) hx hb dX0_clear_31 (by decide) ?_
  refine cP_26 (v := 0) hx hb hts i_X0_clear_X0 hown hK hC (hts (.fieldLink RX0 46 "StatementRules2$Code" "jumps" "I") k_X0_clear_fieldLink_RX0_46_SR_Code_jumps_I) (fun _ q9 => q9) dX0_clear_32 (fun H locs hC => ?_)
  refine lv_aload_n hx hb dX0_clear_35 rfl (lv_at hl 0 rfl) ?_
  refine lv_iconst (v := 0) hx hb dX0_clear_36 (by decide) ?_
  refine cP_27 (v := 0) hx hb hts i_X0_clear_X0 hown hK hC (hts (.fieldLink RX0 49 "StatementRules2$Code" "endReached" "Z") k_X0_clear_fieldLink_RX0_49_SR_Code_endReached_Z) (fun _ q9 => q9) dX0_clear_37 (by decide) (fun H locs hC => ?_)
  obtain rfl := Option.some.inj hf
  exact W.vret hx hb hr (fun t ht hW => ⟨⟨(), rfl, trivial, ⟨by rw [ht]; exact hC.1, va_K.moved hW.alike hK, hC.2.1⟩, by rw [ht]; exact hC.2.2.2⟩, hC.2.2.1.F ht⟩) hC.2.2.1.2.2 dX0_clear_40
theorem k_X0_add_fieldLink_RX0_9_SR_Code_ops_I : Cond.fieldLink RX0 9 "StatementRules2$Code" "ops" "[I" ∈ wzX0_add := List.mem_cons_of_mem _ (List.mem_append_left _ (List.mem_of_getElem? (i := 0) rfl))
theorem i_X0_add_X0 : ∀ w ∈ wsX00, w ∈ wzX0_add := fun _ h => List.mem_cons_of_mem _ (List.mem_append_right _ (List.mem_append_left _ (h)))
theorem k_X0_add_fieldLink_RX0_27_SR_Code_size_I : Cond.fieldLink RX0 27 "StatementRules2$Code" "size" "I" ∈ wzX0_add := List.mem_cons_of_mem _ (List.mem_append_left _ (List.mem_of_getElem? (i := 1) rfl))
theorem k_X0_add_initialized_RX11 : Cond.initialized RX11 ∈ wzX0_add := List.mem_cons_of_mem _ (List.mem_append_left _ (List.mem_of_getElem? (i := 2) rfl))
theorem k_X0_add_static_yX11_put : Cond.static yX11_put ∈ wzX0_add := List.mem_cons_of_mem _ (List.mem_append_left _ (List.mem_of_getElem? (i := 3) rfl))
theorem k_X0_add_fieldLink_RX0_15_SR_Code_arguments_I : Cond.fieldLink RX0 15 "StatementRules2$Code" "arguments" "[I" ∈ wzX0_add := List.mem_cons_of_mem _ (List.mem_append_left _ (List.mem_of_getElem? (i := 4) rfl))
set_option maxHeartbeats 4000000 in
set_option maxRecDepth 100000 in
theorem c_X0_add (l : Launch) (dC : Nat → ClassId) (dI : Nat → Nat → Nat) (Q : CQ) (N : Nat) (σ : CS) (x1 : Int32) (x2 : Int32) (R : Unit × CS) (hf : f_X0_add N σ x1 x2 = some R) : Met l yX0_add wzX0_add ({ frames := 2, cells := CS.hs R.2 - CS.hs σ, slots := 17 * (CS.hs R.2 - CS.hs σ), locals := 60 * 2 }) (va_Pc [.ref (Q.o 2), .int x1, .int x2] (zPre dC dI (CS.hs σ) (cW Q σ) (cT Q))) (va_Qv (fun (_ : Unit) => True) (fun (_ : Unit) (t : State) => zPost dC dI (va_A (cW Q σ) (CS.hs σ)) (cW Q R.2) (cT Q) t ∧ t.heap.size = CS.hs R.2) (va_A (cW Q σ) (CS.hs σ))) (CS.hs R.2 - CS.hs σ) (17 * (CS.hs R.2 - CS.hs σ)) (va_A (cW Q σ) (CS.hs σ)) := by
  refine Met.ofW (cc := cX0_add) (maxL := 3) (ret := none) (by decide) rfl ?_
  intro p e s m args below meth c s₁ B hml hv
  obtain ⟨rfl, hsz, hZ, hP, hK, hD0⟩ := hv
  have hx := B.exec
  have hb := B.bytes
  have hr := B.returns
  have hts := atoms_spec (ws := wzX0_add) B.pre
  have hown : s.vm.findClass RX0 = some m.cls := findClass_of_methodNamed B.named
  have hlocks := B.notSynchronized
  have hD := hD0.self (sz := CS.hs σ)
  generalize hAe : va_A (cW Q σ) (CS.hs σ) = A at hD ⊢
  have hA : ∀ q : Nat, s.heap.size ≤ q → A q := fun q h => by rw [← hAe]; exact Or.inr (hsz ▸ h)
  have hC : CP dC dI Q A s.heap σ s.heap [] := ⟨hP, hD, va_S.rf, hsz⟩
  have h0 : CS.hs σ ≤ CS.hs σ := Nat.le_refl _
  have hl := lv_entry ([.ref (Q.o 2), .int x1, .int x2]) (n := 3) (Nat.le_of_ble_eq_true rfl)
  rw [lg_entry_eq]
  generalize (lg_sl ([.ref (Q.o 2), .int x1, .int x2]) ++ List.replicate (3 - (lg_sl ([.ref (Q.o 2), .int x1, .int x2])).length) Slot.unset).toArray = ls at hl ⊢
  have hl : lv_has ls 3 [(0, .ref (Q.o 2)), (1, .int x1), (2, .int x2)] := hl
  unfold f_X0_add at hf
  refine W.widen (k := CS.hs σ - CS.hs σ) (n := 17 * (CS.hs σ - CS.hs σ)) (Nat.zero_le _) (Nat.zero_le _) ?_
  refine lv_aload_n hx hb dX0_add_0 rfl (lv_at hl 0 rfl) ?_
  refine cG_15 hx hb hts i_X0_add_X0 hown hK hC (hts (.fieldLink RX0 9 "StatementRules2$Code" "ops" "[I") k_X0_add_fieldLink_RX0_9_SR_Code_ops_I) (fun _ q9 => q9) dX0_add_1 ?_
  refine lv_aload_n hx hb dX0_add_4 rfl (lv_at hl 0 rfl) ?_
  refine cG_20 (v := (σ.i 20)) hx hb hts i_X0_add_X0 hown hK hC (hts (.fieldLink RX0 27 "StatementRules2$Code" "size" "I") k_X0_add_fieldLink_RX0_27_SR_Code_size_I) (fun _ q9 => q9) dX0_add_5 rfl ?_
  refine lv_iload_n hx hb dX0_add_8 rfl (lv_at hl 1 rfl) ?_
  have he9 := (cArr_15 (Q := Q) (σ := σ))
  have hFc := cFree1 hC hA he9
  have hr9 : CS.hs σ ≤ CS.hs R.2 := Mono.go hf (mono_some (Nat.le_refl _))
  refine va_callv (va_runSN (As := [.ref (Q.q 15), .int (σ.i 20), .int x1]) (rest := []) ⟨hx, hb, hml, hown, hts⟩ (c_X11_put l dC dI _ (Q.q 15) (Q.c 0) 1200 (σ.a 15) (σ.i 20) x1 (by decide)) ⟨va_cnB 3 hts hX0_add_X11_put_n53 rfl rfl rfl (hZ.1 (.methodLinkNest RX0 53 yX11_put "StatementRules2") (by decide +kernel)) (hts (.initialized RX11) k_X0_add_initialized_RX11) (by decide +kernel) ⟨(show 1 + 1 ≤ 2 by omega), (show 8 + (3 + 11) + 60 * 1 ≤ 60 * 2 by omega)⟩, (hts (.static yX11_put) k_X0_add_static_yX11_put), trivial⟩ ⟨zPre.blind, zPre.go hZ (cOne hC.1 he9) (hK.sub (tys' := [(Q.c 0, .int)]) [0] rfl) (cOneD hC.2.1 he9)⟩ rfl rfl hl.1 rfl (lv_room (Nat.le_of_ble_eq_true rfl)) dX0_add_9 ⟨cAcc4 h0 hr9, cAcc5 h0 hr9⟩) hC.2.2.1 (fun q _ h => hFc q h) hFc (fun u9 t9 H1 locs ht hvm hw hB hz1 hk1 hS => ?_)
  obtain ⟨⟨hP1, hK1, hD1⟩, hsz1⟩ := hB
  rw [ht] at hP1 hsz1
  have hC := cBack (σ' := CS.putA σ 15 (gPut (σ.a 15) 1200 (σ.i 20) x1)) hC he9 cPutA_15 (cPutA_h _ _ _) hk1 hP1 hsz1 hS
  generalize H1 = H at hC ⊢
  refine lv_aload_n hx hb dX0_add_12 rfl (lv_at hl 0 rfl) ?_
  refine cG_16 hx hb hts i_X0_add_X0 hown hK hC (hts (.fieldLink RX0 15 "StatementRules2$Code" "arguments" "[I") k_X0_add_fieldLink_RX0_15_SR_Code_arguments_I) (fun _ q9 => q9) dX0_add_13 ?_
  refine lv_aload_n hx hb dX0_add_16 rfl (lv_at hl 0 rfl) ?_
  refine cG_20 (v := (σ.i 20)) hx hb hts i_X0_add_X0 hown hK hC (hts (.fieldLink RX0 27 "StatementRules2$Code" "size" "I") k_X0_add_fieldLink_RX0_27_SR_Code_size_I) (fun _ q9 => q9) dX0_add_17 rfl ?_
  refine lv_iload_n hx hb dX0_add_20 rfl (lv_at hl 2 rfl) ?_
  have he9 := (cArr_16 (Q := Q) (σ := CS.putA σ 15 (gPut (σ.a 15) 1200 (σ.i 20) x1)))
  have hFc := cFree1 hC hA he9
  have hr9 : CS.hs σ ≤ CS.hs R.2 := Mono.go hf (mono_some (Nat.le_refl _))
  refine va_callv (va_runSN (As := [.ref (Q.q 16), .int (σ.i 20), .int x2]) (rest := []) ⟨hx, hb, hml, hown, hts⟩ (c_X11_put l dC dI _ (Q.q 16) (Q.c 0) 1200 (CS.a (CS.putA σ 15 (gPut (σ.a 15) 1200 (σ.i 20) x1)) 16) (σ.i 20) x2 (by decide)) ⟨va_cnB 3 hts hX0_add_X11_put_n53 rfl rfl rfl (hZ.1 (.methodLinkNest RX0 53 yX11_put "StatementRules2") (by decide +kernel)) (hts (.initialized RX11) k_X0_add_initialized_RX11) (by decide +kernel) ⟨(show 1 + 1 ≤ 2 by omega), (show 8 + (3 + 11) + 60 * 1 ≤ 60 * 2 by omega)⟩, (hts (.static yX11_put) k_X0_add_static_yX11_put), trivial⟩ ⟨zPre.blind, zPre.go hZ (cOne hC.1 he9) (hK.sub (tys' := [(Q.c 0, .int)]) [0] rfl) (cOneD hC.2.1 he9)⟩ rfl rfl hl.1 rfl (lv_room (Nat.le_of_ble_eq_true rfl)) dX0_add_21 ⟨cAcc4 h0 hr9, cAcc5 h0 hr9⟩) hC.2.2.1 (fun q _ h => hFc q h) hFc (fun u9 t9 H1 locs ht hvm hw hB hz1 hk1 hS => ?_)
  obtain ⟨⟨hP1, hK1, hD1⟩, hsz1⟩ := hB
  rw [ht] at hP1 hsz1
  have hC := cBack (σ' := CS.putA (CS.putA σ 15 (gPut (σ.a 15) 1200 (σ.i 20) x1)) 16 (gPut (CS.a (CS.putA σ 15 (gPut (σ.a 15) 1200 (σ.i 20) x1)) 16) 1200 (σ.i 20) x2)) hC he9 cPutA_16 (cPutA_h _ _ _) hk1 hP1 hsz1 hS
  generalize H1 = H at hC ⊢
  refine lv_aload_n hx hb dX0_add_24 rfl (lv_at hl 0 rfl) ?_
  refine lv_dup hx hb dX0_add_25 rfl ?_
  refine cG_20 (v := (σ.i 20)) hx hb hts i_X0_add_X0 hown hK hC (hts (.fieldLink RX0 27 "StatementRules2$Code" "size" "I") k_X0_add_fieldLink_RX0_27_SR_Code_size_I) (fun _ q9 => q9) dX0_add_26 rfl ?_
  refine lv_iconst (v := 1) hx hb dX0_add_29 (by decide) ?_
  refine lv_iadd hx hb dX0_add_30 ?_
  refine cP_20 (v := ((σ.i 20) + 1)) hx hb hts i_X0_add_X0 hown hK hC (hts (.fieldLink RX0 27 "StatementRules2$Code" "size" "I") k_X0_add_fieldLink_RX0_27_SR_Code_size_I) (fun _ q9 => q9) dX0_add_31 (fun H locs hC => ?_)
  obtain rfl := Option.some.inj hf
  exact W.vret hx hb hr (fun t ht hW => ⟨⟨(), rfl, trivial, ⟨by rw [ht]; exact hC.1, va_K.moved hW.alike hK, hC.2.1⟩, by rw [ht]; exact hC.2.2.2⟩, hC.2.2.1.F ht⟩) hC.2.2.1.2.2 dX0_add_34
theorem k_X0_newTarget_fieldLink_RX0_18_SR_Code_targets_I : Cond.fieldLink RX0 18 "StatementRules2$Code" "targets" "[I" ∈ wzX0_newTarget := List.mem_cons_of_mem _ (List.mem_append_left _ (List.mem_of_getElem? (i := 0) rfl))
theorem i_X0_newTarget_X0 : ∀ w ∈ wsX00, w ∈ wzX0_newTarget := fun _ h => List.mem_cons_of_mem _ (List.mem_append_right _ (List.mem_append_left _ (h)))
theorem k_X0_newTarget_fieldLink_RX0_31_SR_Code_targetCount_I : Cond.fieldLink RX0 31 "StatementRules2$Code" "targetCount" "I" ∈ wzX0_newTarget := List.mem_cons_of_mem _ (List.mem_append_left _ (List.mem_of_getElem? (i := 1) rfl))
theorem k_X0_newTarget_initialized_RX11 : Cond.initialized RX11 ∈ wzX0_newTarget := List.mem_cons_of_mem _ (List.mem_append_left _ (List.mem_of_getElem? (i := 2) rfl))
theorem k_X0_newTarget_static_yX11_put : Cond.static yX11_put ∈ wzX0_newTarget := List.mem_cons_of_mem _ (List.mem_append_left _ (List.mem_of_getElem? (i := 3) rfl))
set_option maxHeartbeats 4000000 in
set_option maxRecDepth 100000 in
theorem c_X0_newTarget (l : Launch) (dC : Nat → ClassId) (dI : Nat → Nat → Nat) (Q : CQ) (N : Nat) (σ : CS) (R : Int32 × CS) (hf : f_X0_newTarget N σ = some R) : Met l yX0_newTarget wzX0_newTarget ({ frames := 2, cells := CS.hs R.2 - CS.hs σ, slots := 17 * (CS.hs R.2 - CS.hs σ), locals := 60 * 2 }) (va_Pc [.ref (Q.o 2)] (zPre dC dI (CS.hs σ) (cW Q σ) (cT Q))) (va_Qi (fun (r : Int32) (_ : Unit) => r = R.1) (fun (_ : Unit) (t : State) => zPost dC dI (va_A (cW Q σ) (CS.hs σ)) (cW Q R.2) (cT Q) t ∧ t.heap.size = CS.hs R.2) (va_A (cW Q σ) (CS.hs σ))) (CS.hs R.2 - CS.hs σ) (17 * (CS.hs R.2 - CS.hs σ)) (va_A (cW Q σ) (CS.hs σ)) := by
  refine Met.ofW (cc := cX0_newTarget) (maxL := 1) (ret := (some .int)) (by decide) rfl ?_
  intro p e s m args below meth c s₁ B hml hv
  obtain ⟨rfl, hsz, hZ, hP, hK, hD0⟩ := hv
  have hx := B.exec
  have hb := B.bytes
  have hr := B.returns
  have hts := atoms_spec (ws := wzX0_newTarget) B.pre
  have hown : s.vm.findClass RX0 = some m.cls := findClass_of_methodNamed B.named
  have hlocks := B.notSynchronized
  have hD := hD0.self (sz := CS.hs σ)
  generalize hAe : va_A (cW Q σ) (CS.hs σ) = A at hD ⊢
  have hA : ∀ q : Nat, s.heap.size ≤ q → A q := fun q h => by rw [← hAe]; exact Or.inr (hsz ▸ h)
  have hC : CP dC dI Q A s.heap σ s.heap [] := ⟨hP, hD, va_S.rf, hsz⟩
  have h0 : CS.hs σ ≤ CS.hs σ := Nat.le_refl _
  have hl := lv_entry ([.ref (Q.o 2)]) (n := 1) (Nat.le_of_ble_eq_true rfl)
  rw [lg_entry_eq]
  generalize (lg_sl ([.ref (Q.o 2)]) ++ List.replicate (1 - (lg_sl ([.ref (Q.o 2)])).length) Slot.unset).toArray = ls at hl ⊢
  have hl : lv_has ls 1 [(0, .ref (Q.o 2))] := hl
  unfold f_X0_newTarget at hf
  refine W.widen (k := CS.hs σ - CS.hs σ) (n := 17 * (CS.hs σ - CS.hs σ)) (Nat.zero_le _) (Nat.zero_le _) ?_
  refine lv_aload_n hx hb dX0_newTarget_0 rfl (lv_at hl 0 rfl) ?_
  refine cG_17 hx hb hts i_X0_newTarget_X0 hown hK hC (hts (.fieldLink RX0 18 "StatementRules2$Code" "targets" "[I") k_X0_newTarget_fieldLink_RX0_18_SR_Code_targets_I) (fun _ q9 => q9) dX0_newTarget_1 ?_
  refine lv_aload_n hx hb dX0_newTarget_4 rfl (lv_at hl 0 rfl) ?_
  refine cG_21 (v := (σ.i 21)) hx hb hts i_X0_newTarget_X0 hown hK hC (hts (.fieldLink RX0 31 "StatementRules2$Code" "targetCount" "I") k_X0_newTarget_fieldLink_RX0_31_SR_Code_targetCount_I) (fun _ q9 => q9) dX0_newTarget_5 rfl ?_
  refine lv_iconst (v := (-1)) hx hb dX0_newTarget_8 (by decide) ?_
  have he9 := (cArr_17 (Q := Q) (σ := σ))
  have hFc := cFree1 hC hA he9
  have hr9 : CS.hs σ ≤ CS.hs R.2 := Mono.go hf (mono_some (Nat.le_refl _))
  refine va_callv (va_runSN (As := [.ref (Q.q 17), .int (σ.i 21), .int (-1)]) (rest := []) ⟨hx, hb, hml, hown, hts⟩ (c_X11_put l dC dI _ (Q.q 17) (Q.c 0) 1024 (σ.a 17) (σ.i 21) (-1) (by decide)) ⟨va_cnB 3 hts hX0_newTarget_X11_put_n53 rfl rfl rfl (hZ.1 (.methodLinkNest RX0 53 yX11_put "StatementRules2") (by decide +kernel)) (hts (.initialized RX11) k_X0_newTarget_initialized_RX11) (by decide +kernel) ⟨(show 1 + 1 ≤ 2 by omega), (show 8 + (3 + 11) + 60 * 1 ≤ 60 * 2 by omega)⟩, (hts (.static yX11_put) k_X0_newTarget_static_yX11_put), trivial⟩ ⟨zPre.blind, zPre.go hZ (cOne hC.1 he9) (hK.sub (tys' := [(Q.c 0, .int)]) [0] rfl) (cOneD hC.2.1 he9)⟩ rfl rfl hl.1 rfl (lv_room (Nat.le_of_ble_eq_true rfl)) dX0_newTarget_9 ⟨cAcc4 h0 hr9, cAcc5 h0 hr9⟩) hC.2.2.1 (fun q _ h => hFc q h) hFc (fun u9 t9 H1 locs ht hvm hw hB hz1 hk1 hS => ?_)
  obtain ⟨⟨hP1, hK1, hD1⟩, hsz1⟩ := hB
  rw [ht] at hP1 hsz1
  have hC := cBack (σ' := CS.putA σ 17 (gPut (σ.a 17) 1024 (σ.i 21) (-1))) hC he9 cPutA_17 (cPutA_h _ _ _) hk1 hP1 hsz1 hS
  generalize H1 = H at hC ⊢
  refine lv_aload_n hx hb dX0_newTarget_12 rfl (lv_at hl 0 rfl) ?_
  refine lv_dup hx hb dX0_newTarget_13 rfl ?_
  refine cG_21 (v := (σ.i 21)) hx hb hts i_X0_newTarget_X0 hown hK hC (hts (.fieldLink RX0 31 "StatementRules2$Code" "targetCount" "I") k_X0_newTarget_fieldLink_RX0_31_SR_Code_targetCount_I) (fun _ q9 => q9) dX0_newTarget_14 rfl ?_
  refine lv_iconst (v := 1) hx hb dX0_newTarget_17 (by decide) ?_
  refine lv_iadd hx hb dX0_newTarget_18 ?_
  refine cP_21 (v := ((σ.i 21) + 1)) hx hb hts i_X0_newTarget_X0 hown hK hC (hts (.fieldLink RX0 31 "StatementRules2$Code" "targetCount" "I") k_X0_newTarget_fieldLink_RX0_31_SR_Code_targetCount_I) (fun _ q9 => q9) dX0_newTarget_19 (fun H locs hC => ?_)
  refine lv_aload_n hx hb dX0_newTarget_22 rfl (lv_at hl 0 rfl) ?_
  refine cG_21 (v := ((σ.i 21) + 1)) hx hb hts i_X0_newTarget_X0 hown hK hC (hts (.fieldLink RX0 31 "StatementRules2$Code" "targetCount" "I") k_X0_newTarget_fieldLink_RX0_31_SR_Code_targetCount_I) (fun _ q9 => q9) dX0_newTarget_23 rfl ?_
  refine lv_iconst (v := 1) hx hb dX0_newTarget_26 (by decide) ?_
  refine lv_isub hx hb dX0_newTarget_27 ?_
  obtain rfl := Option.some.inj hf
  exact W.iret (v := (((σ.i 21) + 1) - 1)) hx hb hr (fun t ht hW => ⟨⟨(((σ.i 21) + 1) - 1), (), rfl, rfl, ⟨by rw [ht]; exact hC.1, va_K.moved hW.alike hK, hC.2.1⟩, by rw [ht]; exact hC.2.2.2⟩, hC.2.2.1.F ht⟩) hC.2.2.1.2.2 dX0_newTarget_28
theorem k_X0_aim_fieldLink_RX0_18_SR_Code_targets_I : Cond.fieldLink RX0 18 "StatementRules2$Code" "targets" "[I" ∈ wzX0_aim := List.mem_cons_of_mem _ (List.mem_append_left _ (List.mem_of_getElem? (i := 0) rfl))
theorem i_X0_aim_X0 : ∀ w ∈ wsX00, w ∈ wzX0_aim := fun _ h => List.mem_cons_of_mem _ (List.mem_append_right _ (List.mem_append_left _ (h)))
theorem k_X0_aim_fieldLink_RX0_27_SR_Code_size_I : Cond.fieldLink RX0 27 "StatementRules2$Code" "size" "I" ∈ wzX0_aim := List.mem_cons_of_mem _ (List.mem_append_left _ (List.mem_of_getElem? (i := 1) rfl))
theorem k_X0_aim_initialized_RX11 : Cond.initialized RX11 ∈ wzX0_aim := List.mem_cons_of_mem _ (List.mem_append_left _ (List.mem_of_getElem? (i := 2) rfl))
theorem k_X0_aim_static_yX11_put : Cond.static yX11_put ∈ wzX0_aim := List.mem_cons_of_mem _ (List.mem_append_left _ (List.mem_of_getElem? (i := 3) rfl))
set_option maxHeartbeats 4000000 in
set_option maxRecDepth 100000 in
theorem c_X0_aim (l : Launch) (dC : Nat → ClassId) (dI : Nat → Nat → Nat) (Q : CQ) (N : Nat) (σ : CS) (x1 : Int32) (R : Unit × CS) (hf : f_X0_aim N σ x1 = some R) : Met l yX0_aim wzX0_aim ({ frames := 2, cells := CS.hs R.2 - CS.hs σ, slots := 17 * (CS.hs R.2 - CS.hs σ), locals := 60 * 2 }) (va_Pc [.ref (Q.o 2), .int x1] (zPre dC dI (CS.hs σ) (cW Q σ) (cT Q))) (va_Qv (fun (_ : Unit) => True) (fun (_ : Unit) (t : State) => zPost dC dI (va_A (cW Q σ) (CS.hs σ)) (cW Q R.2) (cT Q) t ∧ t.heap.size = CS.hs R.2) (va_A (cW Q σ) (CS.hs σ))) (CS.hs R.2 - CS.hs σ) (17 * (CS.hs R.2 - CS.hs σ)) (va_A (cW Q σ) (CS.hs σ)) := by
  refine Met.ofW (cc := cX0_aim) (maxL := 2) (ret := none) (by decide) rfl ?_
  intro p e s m args below meth c s₁ B hml hv
  obtain ⟨rfl, hsz, hZ, hP, hK, hD0⟩ := hv
  have hx := B.exec
  have hb := B.bytes
  have hr := B.returns
  have hts := atoms_spec (ws := wzX0_aim) B.pre
  have hown : s.vm.findClass RX0 = some m.cls := findClass_of_methodNamed B.named
  have hlocks := B.notSynchronized
  have hD := hD0.self (sz := CS.hs σ)
  generalize hAe : va_A (cW Q σ) (CS.hs σ) = A at hD ⊢
  have hA : ∀ q : Nat, s.heap.size ≤ q → A q := fun q h => by rw [← hAe]; exact Or.inr (hsz ▸ h)
  have hC : CP dC dI Q A s.heap σ s.heap [] := ⟨hP, hD, va_S.rf, hsz⟩
  have h0 : CS.hs σ ≤ CS.hs σ := Nat.le_refl _
  have hl := lv_entry ([.ref (Q.o 2), .int x1]) (n := 2) (Nat.le_of_ble_eq_true rfl)
  rw [lg_entry_eq]
  generalize (lg_sl ([.ref (Q.o 2), .int x1]) ++ List.replicate (2 - (lg_sl ([.ref (Q.o 2), .int x1])).length) Slot.unset).toArray = ls at hl ⊢
  have hl : lv_has ls 2 [(0, .ref (Q.o 2)), (1, .int x1)] := hl
  unfold f_X0_aim at hf
  refine W.widen (k := CS.hs σ - CS.hs σ) (n := 17 * (CS.hs σ - CS.hs σ)) (Nat.zero_le _) (Nat.zero_le _) ?_
  refine lv_aload_n hx hb dX0_aim_0 rfl (lv_at hl 0 rfl) ?_
  refine cG_17 hx hb hts i_X0_aim_X0 hown hK hC (hts (.fieldLink RX0 18 "StatementRules2$Code" "targets" "[I") k_X0_aim_fieldLink_RX0_18_SR_Code_targets_I) (fun _ q9 => q9) dX0_aim_1 ?_
  refine lv_iload_n hx hb dX0_aim_4 rfl (lv_at hl 1 rfl) ?_
  refine lv_aload_n hx hb dX0_aim_5 rfl (lv_at hl 0 rfl) ?_
  refine cG_20 (v := (σ.i 20)) hx hb hts i_X0_aim_X0 hown hK hC (hts (.fieldLink RX0 27 "StatementRules2$Code" "size" "I") k_X0_aim_fieldLink_RX0_27_SR_Code_size_I) (fun _ q9 => q9) dX0_aim_6 rfl ?_
  have he9 := (cArr_17 (Q := Q) (σ := σ))
  have hFc := cFree1 hC hA he9
  have hr9 : CS.hs σ ≤ CS.hs R.2 := Mono.go hf (mono_some (Nat.le_refl _))
  refine va_callv (va_runSN (As := [.ref (Q.q 17), .int x1, .int (σ.i 20)]) (rest := []) ⟨hx, hb, hml, hown, hts⟩ (c_X11_put l dC dI _ (Q.q 17) (Q.c 0) 1024 (σ.a 17) x1 (σ.i 20) (by decide)) ⟨va_cnB 3 hts hX0_aim_X11_put_n53 rfl rfl rfl (hZ.1 (.methodLinkNest RX0 53 yX11_put "StatementRules2") (by decide +kernel)) (hts (.initialized RX11) k_X0_aim_initialized_RX11) (by decide +kernel) ⟨(show 1 + 1 ≤ 2 by omega), (show 8 + (3 + 11) + 60 * 1 ≤ 60 * 2 by omega)⟩, (hts (.static yX11_put) k_X0_aim_static_yX11_put), trivial⟩ ⟨zPre.blind, zPre.go hZ (cOne hC.1 he9) (hK.sub (tys' := [(Q.c 0, .int)]) [0] rfl) (cOneD hC.2.1 he9)⟩ rfl rfl hl.1 rfl (lv_room (Nat.le_of_ble_eq_true rfl)) dX0_aim_9 ⟨cAcc4 h0 hr9, cAcc5 h0 hr9⟩) hC.2.2.1 (fun q _ h => hFc q h) hFc (fun u9 t9 H1 locs ht hvm hw hB hz1 hk1 hS => ?_)
  obtain ⟨⟨hP1, hK1, hD1⟩, hsz1⟩ := hB
  rw [ht] at hP1 hsz1
  have hC := cBack (σ' := CS.putA σ 17 (gPut (σ.a 17) 1024 x1 (σ.i 20))) hC he9 cPutA_17 (cPutA_h _ _ _) hk1 hP1 hsz1 hS
  generalize H1 = H at hC ⊢
  obtain rfl := Option.some.inj hf
  exact W.vret hx hb hr (fun t ht hW => ⟨⟨(), rfl, trivial, ⟨by rw [ht]; exact hC.1, va_K.moved hW.alike hK, hC.2.1⟩, by rw [ht]; exact hC.2.2.2⟩, hC.2.2.1.F ht⟩) hC.2.2.1.2.2 dX0_aim_12
theorem k_X0_newCells_fieldLink_RX0_37_SR_Code_cellCount_I : Cond.fieldLink RX0 37 "StatementRules2$Code" "cellCount" "I" ∈ wzX0_newCells := List.mem_cons_of_mem _ (List.mem_append_left _ (List.mem_of_getElem? (i := 0) rfl))
theorem i_X0_newCells_X0 : ∀ w ∈ wsX00, w ∈ wzX0_newCells := fun _ h => List.mem_cons_of_mem _ (List.mem_append_right _ (List.mem_append_left _ (h)))
set_option maxHeartbeats 4000000 in
set_option maxRecDepth 100000 in
theorem c_X0_newCells (l : Launch) (dC : Nat → ClassId) (dI : Nat → Nat → Nat) (Q : CQ) (N : Nat) (σ : CS) (x1 : Int32) (R : Int32 × CS) (hf : f_X0_newCells N σ x1 = some R) : Met l yX0_newCells wzX0_newCells ({ frames := 1, cells := CS.hs R.2 - CS.hs σ, slots := 17 * (CS.hs R.2 - CS.hs σ), locals := 60 * 1 }) (va_Pc [.ref (Q.o 2), .int x1] (zPre dC dI (CS.hs σ) (cW Q σ) (cT Q))) (va_Qi (fun (r : Int32) (_ : Unit) => r = R.1) (fun (_ : Unit) (t : State) => zPost dC dI (va_A (cW Q σ) (CS.hs σ)) (cW Q R.2) (cT Q) t ∧ t.heap.size = CS.hs R.2) (va_A (cW Q σ) (CS.hs σ))) (CS.hs R.2 - CS.hs σ) (17 * (CS.hs R.2 - CS.hs σ)) (va_A (cW Q σ) (CS.hs σ)) := by
  refine Met.ofW (cc := cX0_newCells) (maxL := 2) (ret := (some .int)) (by decide) rfl ?_
  intro p e s m args below meth c s₁ B hml hv
  obtain ⟨rfl, hsz, hZ, hP, hK, hD0⟩ := hv
  have hx := B.exec
  have hb := B.bytes
  have hr := B.returns
  have hts := atoms_spec (ws := wzX0_newCells) B.pre
  have hown : s.vm.findClass RX0 = some m.cls := findClass_of_methodNamed B.named
  have hlocks := B.notSynchronized
  have hD := hD0.self (sz := CS.hs σ)
  generalize hAe : va_A (cW Q σ) (CS.hs σ) = A at hD ⊢
  have hA : ∀ q : Nat, s.heap.size ≤ q → A q := fun q h => by rw [← hAe]; exact Or.inr (hsz ▸ h)
  have hC : CP dC dI Q A s.heap σ s.heap [] := ⟨hP, hD, va_S.rf, hsz⟩
  have h0 : CS.hs σ ≤ CS.hs σ := Nat.le_refl _
  have hl := lv_entry ([.ref (Q.o 2), .int x1]) (n := 2) (Nat.le_of_ble_eq_true rfl)
  rw [lg_entry_eq]
  generalize (lg_sl ([.ref (Q.o 2), .int x1]) ++ List.replicate (2 - (lg_sl ([.ref (Q.o 2), .int x1])).length) Slot.unset).toArray = ls at hl ⊢
  have hl : lv_has ls 2 [(0, .ref (Q.o 2)), (1, .int x1)] := hl
  unfold f_X0_newCells at hf
  refine W.widen (k := CS.hs σ - CS.hs σ) (n := 17 * (CS.hs σ - CS.hs σ)) (Nat.zero_le _) (Nat.zero_le _) ?_
  refine lv_aload_n hx hb dX0_newCells_0 rfl (lv_at hl 0 rfl) ?_
  refine lv_dup hx hb dX0_newCells_1 rfl ?_
  refine cG_23 (v := (σ.i 23)) hx hb hts i_X0_newCells_X0 hown hK hC (hts (.fieldLink RX0 37 "StatementRules2$Code" "cellCount" "I") k_X0_newCells_fieldLink_RX0_37_SR_Code_cellCount_I) (fun _ q9 => q9) dX0_newCells_2 rfl ?_
  refine lv_iload_n hx hb dX0_newCells_5 rfl (lv_at hl 1 rfl) ?_
  refine lv_iadd hx hb dX0_newCells_6 ?_
  refine cP_23 (v := ((σ.i 23) + x1)) hx hb hts i_X0_newCells_X0 hown hK hC (hts (.fieldLink RX0 37 "StatementRules2$Code" "cellCount" "I") k_X0_newCells_fieldLink_RX0_37_SR_Code_cellCount_I) (fun _ q9 => q9) dX0_newCells_7 (fun H locs hC => ?_)
  refine lv_aload_n hx hb dX0_newCells_10 rfl (lv_at hl 0 rfl) ?_
  refine cG_23 (v := ((σ.i 23) + x1)) hx hb hts i_X0_newCells_X0 hown hK hC (hts (.fieldLink RX0 37 "StatementRules2$Code" "cellCount" "I") k_X0_newCells_fieldLink_RX0_37_SR_Code_cellCount_I) (fun _ q9 => q9) dX0_newCells_11 rfl ?_
  refine lv_iload_n hx hb dX0_newCells_14 rfl (lv_at hl 1 rfl) ?_
  refine lv_isub hx hb dX0_newCells_15 ?_
  obtain rfl := Option.some.inj hf
  exact W.iret (v := (((σ.i 23) + x1) - x1)) hx hb hr (fun t ht hW => ⟨⟨(((σ.i 23) + x1) - x1), (), rfl, rfl, ⟨by rw [ht]; exact hC.1, va_K.moved hW.alike hK, hC.2.1⟩, by rw [ht]; exact hC.2.2.2⟩, hC.2.2.1.F ht⟩) hC.2.2.1.2.2 dX0_newCells_16
theorem k_X0_hasCase_fieldLink_RX0_34_SR_Code_caseCount_I : Cond.fieldLink RX0 34 "StatementRules2$Code" "caseCount" "I" ∈ wzX0_hasCase := List.mem_cons_of_mem _ (List.mem_append_left _ (List.mem_of_getElem? (i := 0) rfl))
theorem i_X0_hasCase_X0 : ∀ w ∈ wsX00, w ∈ wzX0_hasCase := fun _ h => List.mem_cons_of_mem _ (List.mem_append_right _ (List.mem_append_left _ (h)))
theorem k_X0_hasCase_fieldLink_RX0_21_SR_Code_caseValues_I : Cond.fieldLink RX0 21 "StatementRules2$Code" "caseValues" "[I" ∈ wzX0_hasCase := List.mem_cons_of_mem _ (List.mem_append_left _ (List.mem_of_getElem? (i := 1) rfl))
theorem k_X0_hasCase_initialized_RX11 : Cond.initialized RX11 ∈ wzX0_hasCase := List.mem_cons_of_mem _ (List.mem_append_left _ (List.mem_of_getElem? (i := 2) rfl))
theorem k_X0_hasCase_static_yX11_at : Cond.static yX11_at ∈ wzX0_hasCase := List.mem_cons_of_mem _ (List.mem_append_left _ (List.mem_of_getElem? (i := 3) rfl))
set_option maxHeartbeats 4000000 in
set_option maxRecDepth 100000 in
theorem j_X0_hasCase_2 {p : Program} {e : Env} {s : State} {m : MethodId} {args : Array Value} {below : List Frame} {meth : Method} {c : Code} {A : Nat → Prop} (l : Launch) (dC : Nat → ClassId) (dI : Nat → Nat → Nat) (Q : CQ) (N : Nat) (z9h : Nat) (R : Int32 × CS) (hx : p.tables.exec = Jvm.exec) (hb : c.code = cX0_hasCase) (hr : meth.sig.returnType = (some .boolean)) (hml : c.maxLocals = 4) (hown : s.vm.findClass RX0 = some m.cls) (hts : ∀ w ∈ wzX0_hasCase, w.before args s = true) (hlocks : meth.locks = false) (hZ : zAMB s) (hA : ∀ q : Nat, s.heap.size ≤ q → A q) (hK : va_K (dC, dI) vwCl (cT Q) s) : ∀ (n9 : Nat), ∀ (σ : CS) (x2 : Int32) (x3 : Int32) (H : Heap) (locs : List Loc) (ls : Array Slot), f_X0_hasCase_2 N n9 σ x2 x3 = some R → z9h ≤ CS.hs σ → CP dC dI Q A s.heap σ H locs → lv_has ls 4 [(0, .ref (Q.o 2)), (2, .int x2), (3, .int x3)] → W p l e ({ frames := 2, cells := CS.hs R.2 - z9h, slots := 17 * (CS.hs R.2 - z9h), locals := 60 * 2 }) s m args below meth c H locs (CS.hs σ - z9h) (17 * (CS.hs σ - z9h)) (MQ below (va_Qi (fun (r : Int32) (_ : Unit) => r = R.1) (fun (_ : Unit) (t : State) => zPost dC dI A (cW Q R.2) (cT Q) t ∧ t.heap.size = CS.hs R.2) A) args s (CS.hs R.2 - z9h) (17 * (CS.hs R.2 - z9h)) A) (F0 m 2 ls []) := by
  intro n9
  induction n9 with
  | zero => intro σ x2 x3 H locs ls hf; exact absurd hf (by intro q9; cases q9)
  | succ n9 ih =>
    intro σ x2 x3 H locs ls hf h0 hC hl
    replace hf : b_X0_hasCase_2 N (f_X0_hasCase_2 N n9) σ x2 x3 = some R := hf
    unfold b_X0_hasCase_2 at hf
    have hMK := fun (σ : CS) (x2 : Int32) (x3 : Int32) => m_X0_hasCase_2 N n9 σ x2 x3
    refine lv_iload_n hx hb dX0_hasCase_2 rfl (lv_at hl 2 rfl) ?_
    refine lv_aload_n hx hb dX0_hasCase_3 rfl (lv_at hl 0 rfl) ?_
    refine cG_22 (v := (σ.i 22)) hx hb hts i_X0_hasCase_X0 hown hK hC (hts (.fieldLink RX0 34 "StatementRules2$Code" "caseCount" "I") k_X0_hasCase_fieldLink_RX0_34_SR_Code_caseCount_I) (fun _ q9 => q9) dX0_hasCase_4 rfl ?_
    refine lv_icmp_ge (tgt := 30) hx hb dX0_hasCase_7 (by decide) (fun c1 => ?_) (fun c1 => ?_)
    ·
      replace hf := (if_pos c1).symm.trans hf
      refine lv_iconst (v := 0) hx hb dX0_hasCase_30 (by decide) ?_
      obtain rfl := Option.some.inj hf
      exact W.zret (v := 0) hx hb hr (rfl) (fun t ht hW => ⟨⟨0, (), rfl, rfl, ⟨by rw [ht]; exact hC.1, va_K.moved hW.alike hK, hC.2.1⟩, by rw [ht]; exact hC.2.2.2⟩, hC.2.2.1.F ht⟩) hC.2.2.1.2.2 dX0_hasCase_31
    ·
      replace hf := (if_neg c1).symm.trans hf
      refine lv_aload_n hx hb dX0_hasCase_10 rfl (lv_at hl 0 rfl) ?_
      refine cG_18 hx hb hts i_X0_hasCase_X0 hown hK hC (hts (.fieldLink RX0 21 "StatementRules2$Code" "caseValues" "[I") k_X0_hasCase_fieldLink_RX0_21_SR_Code_caseValues_I) (fun _ q9 => q9) dX0_hasCase_11 ?_
      refine lv_iload_n hx hb dX0_hasCase_14 rfl (lv_at hl 2 rfl) ?_
      have he9 := (cArr_18 (Q := Q) (σ := σ))
      have hFc := cFree1 hC hA he9
      have hr9 : CS.hs σ ≤ CS.hs R.2 := Mono.go hf (mono_ite (mono_some (Nat.le_refl _)) (hMK σ x2 (x3 + 1)))
      refine va_calli (va_runSN (As := [.ref (Q.q 18), .int x3]) (rest := []) ⟨hx, hb, hml, hown, hts⟩ (c_X11_at l dC dI _ (Q.q 18) (Q.c 0) 320 (σ.a 18) x3 (by decide)) ⟨va_cnB 2 hts hX0_hasCase_X11_at_n57 rfl rfl rfl (hZ.1 (.methodLinkNest RX0 57 yX11_at "StatementRules2") (by decide +kernel)) (hts (.initialized RX11) k_X0_hasCase_initialized_RX11) (by decide +kernel) ⟨(show 1 + 1 ≤ 2 by omega), (show 8 + (2 + 11) + 60 * 1 ≤ 60 * 2 by omega)⟩, (hts (.static yX11_at) k_X0_hasCase_static_yX11_at), trivial⟩ ⟨zPre.blind, zPre.go hZ (cOne hC.1 he9) (hK.sub (tys' := [(Q.c 0, .int)]) [0] rfl) (cOneD hC.2.1 he9)⟩ rfl rfl hl.1 rfl (lv_room (Nat.le_of_ble_eq_true rfl)) dX0_hasCase_15 ⟨cAcc4 h0 hr9, cAcc5 h0 hr9⟩) hC.2.2.1 (fun q _ h => hFc q h) hFc (fun r2 u9 t9 H1 locs ht hvm hw hB hz1 hk1 hS => ?_)
      obtain ⟨⟨hP1, hK1, hD1⟩, hsz1⟩ := hB
      rw [ht] at hP1 hsz1
      have hC := cBack (σ' := σ) hC he9 (cSelf he9) (Eq.refl (CS.hs σ)) hk1 hP1 hsz1 hS
      generalize H1 = H at hC ⊢
      obtain rfl : r2 = (gAt (σ.a 18) 320 x3) := hw
      refine lv_iload_n hx hb dX0_hasCase_18 rfl (lv_at hl 1 rfl) ?_
      refine lv_icmp_ne (tgt := 24) hx hb dX0_hasCase_19 (by decide) (fun c3 => ?_) (fun c3 => ?_)
      ·
        replace hf := (if_neg c3).symm.trans hf
        refine lv_iinc (v := (x3 + 1)) (lv' := [(3, .int (x3 + 1)), (0, .ref (Q.o 2)), (2, .int x2)]) hx hb dX0_hasCase_24 hl (k := 2) rfl rfl (by decide) rfl (fun ls hl => ?_)
        refine lv_goto (tgt := 2) hx hb dX0_hasCase_27 (by decide) ?_
        exact ih σ x2 (x3 + 1) _ _ _ hf h0 hC (lv_sub hl [1, 2, 0] rfl)
      ·
        replace hf := (if_pos c3).symm.trans hf
        refine lv_iconst (v := 1) hx hb dX0_hasCase_22 (by decide) ?_
        obtain rfl := Option.some.inj hf
        exact W.zret (v := 1) hx hb hr (rfl) (fun t ht hW => ⟨⟨1, (), rfl, rfl, ⟨by rw [ht]; exact hC.1, va_K.moved hW.alike hK, hC.2.1⟩, by rw [ht]; exact hC.2.2.2⟩, hC.2.2.1.F ht⟩) hC.2.2.1.2.2 dX0_hasCase_23
set_option maxHeartbeats 4000000 in
set_option maxRecDepth 100000 in
theorem c_X0_hasCase (l : Launch) (dC : Nat → ClassId) (dI : Nat → Nat → Nat) (Q : CQ) (N : Nat) (σ : CS) (x1 : Int32) (x2 : Int32) (R : Int32 × CS) (hf : f_X0_hasCase N σ x1 x2 = some R) : Met l yX0_hasCase wzX0_hasCase ({ frames := 2, cells := CS.hs R.2 - CS.hs σ, slots := 17 * (CS.hs R.2 - CS.hs σ), locals := 60 * 2 }) (va_Pc [.ref (Q.o 2), .int x1, .int x2] (zPre dC dI (CS.hs σ) (cW Q σ) (cT Q))) (va_Qi (fun (r : Int32) (_ : Unit) => r = R.1) (fun (_ : Unit) (t : State) => zPost dC dI (va_A (cW Q σ) (CS.hs σ)) (cW Q R.2) (cT Q) t ∧ t.heap.size = CS.hs R.2) (va_A (cW Q σ) (CS.hs σ))) (CS.hs R.2 - CS.hs σ) (17 * (CS.hs R.2 - CS.hs σ)) (va_A (cW Q σ) (CS.hs σ)) := by
  refine Met.ofW (cc := cX0_hasCase) (maxL := 4) (ret := (some .boolean)) (by decide) rfl ?_
  intro p e s m args below meth c s₁ B hml hv
  obtain ⟨rfl, hsz, hZ, hP, hK, hD0⟩ := hv
  have hx := B.exec
  have hb := B.bytes
  have hr := B.returns
  have hts := atoms_spec (ws := wzX0_hasCase) B.pre
  have hown : s.vm.findClass RX0 = some m.cls := findClass_of_methodNamed B.named
  have hlocks := B.notSynchronized
  have hD := hD0.self (sz := CS.hs σ)
  generalize hAe : va_A (cW Q σ) (CS.hs σ) = A at hD ⊢
  have hA : ∀ q : Nat, s.heap.size ≤ q → A q := fun q h => by rw [← hAe]; exact Or.inr (hsz ▸ h)
  have hC : CP dC dI Q A s.heap σ s.heap [] := ⟨hP, hD, va_S.rf, hsz⟩
  have h0 : CS.hs σ ≤ CS.hs σ := Nat.le_refl _
  have hl := lv_entry ([.ref (Q.o 2), .int x1, .int x2]) (n := 4) (Nat.le_of_ble_eq_true rfl)
  rw [lg_entry_eq]
  generalize (lg_sl ([.ref (Q.o 2), .int x1, .int x2]) ++ List.replicate (4 - (lg_sl ([.ref (Q.o 2), .int x1, .int x2])).length) Slot.unset).toArray = ls at hl ⊢
  have hl : lv_has ls 4 [(0, .ref (Q.o 2)), (1, .int x1), (2, .int x2)] := hl
  unfold f_X0_hasCase at hf
  refine W.widen (k := CS.hs σ - CS.hs σ) (n := 17 * (CS.hs σ - CS.hs σ)) (Nat.zero_le _) (Nat.zero_le _) ?_
  refine lv_iload_n hx hb dX0_hasCase_0 rfl (lv_at hl 1 rfl) ?_
  refine lv_istore_n (lv' := [(3, .int x1), (0, .ref (Q.o 2)), (1, .int x1), (2, .int x2)]) hx hb dX0_hasCase_1 rfl hl (by decide) rfl (fun ls hl => ?_)
  exact j_X0_hasCase_2 l dC dI Q N (CS.hs σ) R hx hb hr hml hown hts hlocks hZ hA hK N σ x2 x1 _ _ _ hf h0 hC (lv_sub hl [1, 3, 0] rfl)
theorem k_X0_addCase_fieldLink_RX0_21_SR_Code_caseValues_I : Cond.fieldLink RX0 21 "StatementRules2$Code" "caseValues" "[I" ∈ wzX0_addCase := List.mem_cons_of_mem _ (List.mem_append_left _ (List.mem_of_getElem? (i := 0) rfl))
theorem i_X0_addCase_X0 : ∀ w ∈ wsX00, w ∈ wzX0_addCase := fun _ h => List.mem_cons_of_mem _ (List.mem_append_right _ (List.mem_append_left _ (h)))
theorem k_X0_addCase_fieldLink_RX0_34_SR_Code_caseCount_I : Cond.fieldLink RX0 34 "StatementRules2$Code" "caseCount" "I" ∈ wzX0_addCase := List.mem_cons_of_mem _ (List.mem_append_left _ (List.mem_of_getElem? (i := 1) rfl))
theorem k_X0_addCase_initialized_RX11 : Cond.initialized RX11 ∈ wzX0_addCase := List.mem_cons_of_mem _ (List.mem_append_left _ (List.mem_of_getElem? (i := 2) rfl))
theorem k_X0_addCase_static_yX11_put : Cond.static yX11_put ∈ wzX0_addCase := List.mem_cons_of_mem _ (List.mem_append_left _ (List.mem_of_getElem? (i := 3) rfl))
theorem k_X0_addCase_fieldLink_RX0_24_SR_Code_caseTargets_I : Cond.fieldLink RX0 24 "StatementRules2$Code" "caseTargets" "[I" ∈ wzX0_addCase := List.mem_cons_of_mem _ (List.mem_append_left _ (List.mem_of_getElem? (i := 4) rfl))
set_option maxHeartbeats 4000000 in
set_option maxRecDepth 100000 in
theorem c_X0_addCase (l : Launch) (dC : Nat → ClassId) (dI : Nat → Nat → Nat) (Q : CQ) (N : Nat) (σ : CS) (x1 : Int32) (x2 : Int32) (R : Unit × CS) (hf : f_X0_addCase N σ x1 x2 = some R) : Met l yX0_addCase wzX0_addCase ({ frames := 2, cells := CS.hs R.2 - CS.hs σ, slots := 17 * (CS.hs R.2 - CS.hs σ), locals := 60 * 2 }) (va_Pc [.ref (Q.o 2), .int x1, .int x2] (zPre dC dI (CS.hs σ) (cW Q σ) (cT Q))) (va_Qv (fun (_ : Unit) => True) (fun (_ : Unit) (t : State) => zPost dC dI (va_A (cW Q σ) (CS.hs σ)) (cW Q R.2) (cT Q) t ∧ t.heap.size = CS.hs R.2) (va_A (cW Q σ) (CS.hs σ))) (CS.hs R.2 - CS.hs σ) (17 * (CS.hs R.2 - CS.hs σ)) (va_A (cW Q σ) (CS.hs σ)) := by
  refine Met.ofW (cc := cX0_addCase) (maxL := 3) (ret := none) (by decide) rfl ?_
  intro p e s m args below meth c s₁ B hml hv
  obtain ⟨rfl, hsz, hZ, hP, hK, hD0⟩ := hv
  have hx := B.exec
  have hb := B.bytes
  have hr := B.returns
  have hts := atoms_spec (ws := wzX0_addCase) B.pre
  have hown : s.vm.findClass RX0 = some m.cls := findClass_of_methodNamed B.named
  have hlocks := B.notSynchronized
  have hD := hD0.self (sz := CS.hs σ)
  generalize hAe : va_A (cW Q σ) (CS.hs σ) = A at hD ⊢
  have hA : ∀ q : Nat, s.heap.size ≤ q → A q := fun q h => by rw [← hAe]; exact Or.inr (hsz ▸ h)
  have hC : CP dC dI Q A s.heap σ s.heap [] := ⟨hP, hD, va_S.rf, hsz⟩
  have h0 : CS.hs σ ≤ CS.hs σ := Nat.le_refl _
  have hl := lv_entry ([.ref (Q.o 2), .int x1, .int x2]) (n := 3) (Nat.le_of_ble_eq_true rfl)
  rw [lg_entry_eq]
  generalize (lg_sl ([.ref (Q.o 2), .int x1, .int x2]) ++ List.replicate (3 - (lg_sl ([.ref (Q.o 2), .int x1, .int x2])).length) Slot.unset).toArray = ls at hl ⊢
  have hl : lv_has ls 3 [(0, .ref (Q.o 2)), (1, .int x1), (2, .int x2)] := hl
  unfold f_X0_addCase at hf
  refine W.widen (k := CS.hs σ - CS.hs σ) (n := 17 * (CS.hs σ - CS.hs σ)) (Nat.zero_le _) (Nat.zero_le _) ?_
  refine lv_aload_n hx hb dX0_addCase_0 rfl (lv_at hl 0 rfl) ?_
  refine cG_18 hx hb hts i_X0_addCase_X0 hown hK hC (hts (.fieldLink RX0 21 "StatementRules2$Code" "caseValues" "[I") k_X0_addCase_fieldLink_RX0_21_SR_Code_caseValues_I) (fun _ q9 => q9) dX0_addCase_1 ?_
  refine lv_aload_n hx hb dX0_addCase_4 rfl (lv_at hl 0 rfl) ?_
  refine cG_22 (v := (σ.i 22)) hx hb hts i_X0_addCase_X0 hown hK hC (hts (.fieldLink RX0 34 "StatementRules2$Code" "caseCount" "I") k_X0_addCase_fieldLink_RX0_34_SR_Code_caseCount_I) (fun _ q9 => q9) dX0_addCase_5 rfl ?_
  refine lv_iload_n hx hb dX0_addCase_8 rfl (lv_at hl 1 rfl) ?_
  have he9 := (cArr_18 (Q := Q) (σ := σ))
  have hFc := cFree1 hC hA he9
  have hr9 : CS.hs σ ≤ CS.hs R.2 := Mono.go hf (mono_some (Nat.le_refl _))
  refine va_callv (va_runSN (As := [.ref (Q.q 18), .int (σ.i 22), .int x1]) (rest := []) ⟨hx, hb, hml, hown, hts⟩ (c_X11_put l dC dI _ (Q.q 18) (Q.c 0) 320 (σ.a 18) (σ.i 22) x1 (by decide)) ⟨va_cnB 3 hts hX0_addCase_X11_put_n53 rfl rfl rfl (hZ.1 (.methodLinkNest RX0 53 yX11_put "StatementRules2") (by decide +kernel)) (hts (.initialized RX11) k_X0_addCase_initialized_RX11) (by decide +kernel) ⟨(show 1 + 1 ≤ 2 by omega), (show 8 + (3 + 11) + 60 * 1 ≤ 60 * 2 by omega)⟩, (hts (.static yX11_put) k_X0_addCase_static_yX11_put), trivial⟩ ⟨zPre.blind, zPre.go hZ (cOne hC.1 he9) (hK.sub (tys' := [(Q.c 0, .int)]) [0] rfl) (cOneD hC.2.1 he9)⟩ rfl rfl hl.1 rfl (lv_room (Nat.le_of_ble_eq_true rfl)) dX0_addCase_9 ⟨cAcc4 h0 hr9, cAcc5 h0 hr9⟩) hC.2.2.1 (fun q _ h => hFc q h) hFc (fun u9 t9 H1 locs ht hvm hw hB hz1 hk1 hS => ?_)
  obtain ⟨⟨hP1, hK1, hD1⟩, hsz1⟩ := hB
  rw [ht] at hP1 hsz1
  have hC := cBack (σ' := CS.putA σ 18 (gPut (σ.a 18) 320 (σ.i 22) x1)) hC he9 cPutA_18 (cPutA_h _ _ _) hk1 hP1 hsz1 hS
  generalize H1 = H at hC ⊢
  refine lv_aload_n hx hb dX0_addCase_12 rfl (lv_at hl 0 rfl) ?_
  refine cG_19 hx hb hts i_X0_addCase_X0 hown hK hC (hts (.fieldLink RX0 24 "StatementRules2$Code" "caseTargets" "[I") k_X0_addCase_fieldLink_RX0_24_SR_Code_caseTargets_I) (fun _ q9 => q9) dX0_addCase_13 ?_
  refine lv_aload_n hx hb dX0_addCase_16 rfl (lv_at hl 0 rfl) ?_
  refine cG_22 (v := (σ.i 22)) hx hb hts i_X0_addCase_X0 hown hK hC (hts (.fieldLink RX0 34 "StatementRules2$Code" "caseCount" "I") k_X0_addCase_fieldLink_RX0_34_SR_Code_caseCount_I) (fun _ q9 => q9) dX0_addCase_17 rfl ?_
  refine lv_iload_n hx hb dX0_addCase_20 rfl (lv_at hl 2 rfl) ?_
  have he9 := (cArr_19 (Q := Q) (σ := CS.putA σ 18 (gPut (σ.a 18) 320 (σ.i 22) x1)))
  have hFc := cFree1 hC hA he9
  have hr9 : CS.hs σ ≤ CS.hs R.2 := Mono.go hf (mono_some (Nat.le_refl _))
  refine va_callv (va_runSN (As := [.ref (Q.q 19), .int (σ.i 22), .int x2]) (rest := []) ⟨hx, hb, hml, hown, hts⟩ (c_X11_put l dC dI _ (Q.q 19) (Q.c 0) 320 (CS.a (CS.putA σ 18 (gPut (σ.a 18) 320 (σ.i 22) x1)) 19) (σ.i 22) x2 (by decide)) ⟨va_cnB 3 hts hX0_addCase_X11_put_n53 rfl rfl rfl (hZ.1 (.methodLinkNest RX0 53 yX11_put "StatementRules2") (by decide +kernel)) (hts (.initialized RX11) k_X0_addCase_initialized_RX11) (by decide +kernel) ⟨(show 1 + 1 ≤ 2 by omega), (show 8 + (3 + 11) + 60 * 1 ≤ 60 * 2 by omega)⟩, (hts (.static yX11_put) k_X0_addCase_static_yX11_put), trivial⟩ ⟨zPre.blind, zPre.go hZ (cOne hC.1 he9) (hK.sub (tys' := [(Q.c 0, .int)]) [0] rfl) (cOneD hC.2.1 he9)⟩ rfl rfl hl.1 rfl (lv_room (Nat.le_of_ble_eq_true rfl)) dX0_addCase_21 ⟨cAcc4 h0 hr9, cAcc5 h0 hr9⟩) hC.2.2.1 (fun q _ h => hFc q h) hFc (fun u9 t9 H1 locs ht hvm hw hB hz1 hk1 hS => ?_)
  obtain ⟨⟨hP1, hK1, hD1⟩, hsz1⟩ := hB
  rw [ht] at hP1 hsz1
  have hC := cBack (σ' := CS.putA (CS.putA σ 18 (gPut (σ.a 18) 320 (σ.i 22) x1)) 19 (gPut (CS.a (CS.putA σ 18 (gPut (σ.a 18) 320 (σ.i 22) x1)) 19) 320 (σ.i 22) x2)) hC he9 cPutA_19 (cPutA_h _ _ _) hk1 hP1 hsz1 hS
  generalize H1 = H at hC ⊢
  refine lv_aload_n hx hb dX0_addCase_24 rfl (lv_at hl 0 rfl) ?_
  refine lv_dup hx hb dX0_addCase_25 rfl ?_
  refine cG_22 (v := (σ.i 22)) hx hb hts i_X0_addCase_X0 hown hK hC (hts (.fieldLink RX0 34 "StatementRules2$Code" "caseCount" "I") k_X0_addCase_fieldLink_RX0_34_SR_Code_caseCount_I) (fun _ q9 => q9) dX0_addCase_26 rfl ?_
  refine lv_iconst (v := 1) hx hb dX0_addCase_29 (by decide) ?_
  refine lv_iadd hx hb dX0_addCase_30 ?_
  refine cP_22 (v := ((σ.i 22) + 1)) hx hb hts i_X0_addCase_X0 hown hK hC (hts (.fieldLink RX0 34 "StatementRules2$Code" "caseCount" "I") k_X0_addCase_fieldLink_RX0_34_SR_Code_caseCount_I) (fun _ q9 => q9) dX0_addCase_31 (fun H locs hC => ?_)
  obtain rfl := Option.some.inj hf
  exact W.vret hx hb hr (fun t ht hW => ⟨⟨(), rfl, trivial, ⟨by rw [ht]; exact hC.1, va_K.moved hW.alike hK, hC.2.1⟩, by rw [ht]; exact hC.2.2.2⟩, hC.2.2.1.F ht⟩) hC.2.2.1.2.2 dX0_addCase_34
theorem k_X0_addCases_fieldLink_RX0_34_SR_Code_caseCount_I : Cond.fieldLink RX0 34 "StatementRules2$Code" "caseCount" "I" ∈ wzX0_addCases := List.mem_cons_of_mem _ (List.mem_append_left _ (List.mem_of_getElem? (i := 0) rfl))
theorem i_X0_addCases_X0 : ∀ w ∈ wsX00, w ∈ wzX0_addCases := fun _ h => List.mem_cons_of_mem _ (List.mem_append_right _ (List.mem_append_left _ (h)))
theorem k_X0_addCases_fieldLink_RX0_21_SR_Code_caseValues_I : Cond.fieldLink RX0 21 "StatementRules2$Code" "caseValues" "[I" ∈ wzX0_addCases := List.mem_cons_of_mem _ (List.mem_append_left _ (List.mem_of_getElem? (i := 1) rfl))
theorem k_X0_addCases_initialized_RX11 : Cond.initialized RX11 ∈ wzX0_addCases := List.mem_cons_of_mem _ (List.mem_append_left _ (List.mem_of_getElem? (i := 2) rfl))
theorem k_X0_addCases_static_yX11_at : Cond.static yX11_at ∈ wzX0_addCases := List.mem_cons_of_mem _ (List.mem_append_left _ (List.mem_of_getElem? (i := 3) rfl))
theorem k_X0_addCases_fieldLink_RX0_24_SR_Code_caseTargets_I : Cond.fieldLink RX0 24 "StatementRules2$Code" "caseTargets" "[I" ∈ wzX0_addCases := List.mem_cons_of_mem _ (List.mem_append_left _ (List.mem_of_getElem? (i := 4) rfl))
set_option maxHeartbeats 4000000 in
set_option maxRecDepth 100000 in
theorem j_X0_addCases_2 {p : Program} {e : Env} {s : State} {m : MethodId} {args : Array Value} {below : List Frame} {meth : Method} {c : Code} {A : Nat → Prop} (l : Launch) (dC : Nat → ClassId) (dI : Nat → Nat → Nat) (Q : CQ) (N : Nat) (z9h : Nat) (R : Unit × CS) (hx : p.tables.exec = Jvm.exec) (hb : c.code = cX0_addCases) (hr : meth.sig.returnType = none) (hml : c.maxLocals = 4) (hown : s.vm.findClass RX0 = some m.cls) (hts : ∀ w ∈ wzX0_addCases, w.before args s = true) (hlocks : meth.locks = false) (hZ : zAMB s) (hA : ∀ q : Nat, s.heap.size ≤ q → A q) (hK : va_K (dC, dI) vwCl (cT Q) s) : ∀ (n9 : Nat), ∀ (σ : CS) (x1 : Int32) (x2 : Int32) (x3 : Int32) (H : Heap) (locs : List Loc) (ls : Array Slot), f_X0_addCases_2 N n9 σ x1 x2 x3 = some R → z9h ≤ CS.hs σ → CP dC dI Q A s.heap σ H locs → lv_has ls 4 [(0, .ref (Q.o 2)), (1, .int x1), (2, .int x2), (3, .int x3)] → W p l e ({ frames := 3, cells := CS.hs R.2 - z9h, slots := 17 * (CS.hs R.2 - z9h), locals := 60 * 3 }) s m args below meth c H locs (CS.hs σ - z9h) (17 * (CS.hs σ - z9h)) (MQ below (va_Qv (fun (_ : Unit) => True) (fun (_ : Unit) (t : State) => zPost dC dI A (cW Q R.2) (cT Q) t ∧ t.heap.size = CS.hs R.2) A) args s (CS.hs R.2 - z9h) (17 * (CS.hs R.2 - z9h)) A) (F0 m 2 ls []) := by
  intro n9
  induction n9 with
  | zero => intro σ x1 x2 x3 H locs ls hf; exact absurd hf (by intro q9; cases q9)
  | succ n9 ih =>
    intro σ x1 x2 x3 H locs ls hf h0 hC hl
    replace hf : b_X0_addCases_2 N (f_X0_addCases_2 N n9) σ x1 x2 x3 = some R := hf
    unfold b_X0_addCases_2 at hf
    have hMK := fun (σ : CS) (x1 : Int32) (x2 : Int32) (x3 : Int32) => m_X0_addCases_2 N n9 σ x1 x2 x3
    refine lv_iload_n hx hb dX0_addCases_2 rfl (lv_at hl 3 rfl) ?_
    refine lv_aload_n hx hb dX0_addCases_3 rfl (lv_at hl 0 rfl) ?_
    refine cG_22 (v := (σ.i 22)) hx hb hts i_X0_addCases_X0 hown hK hC (hts (.fieldLink RX0 34 "StatementRules2$Code" "caseCount" "I") k_X0_addCases_fieldLink_RX0_34_SR_Code_caseCount_I) (fun _ q9 => q9) dX0_addCases_4 rfl ?_
    refine lv_icmp_ge (tgt := 43) hx hb dX0_addCases_7 (by decide) (fun c1 => ?_) (fun c1 => ?_)
    ·
      replace hf := (if_pos c1).symm.trans hf
      refine lv_aload_n hx hb dX0_addCases_43 rfl (lv_at hl 0 rfl) ?_
      refine lv_iload_n hx hb dX0_addCases_44 rfl (lv_at hl 1 rfl) ?_
      refine cP_22 (v := x1) hx hb hts i_X0_addCases_X0 hown hK hC (hts (.fieldLink RX0 34 "StatementRules2$Code" "caseCount" "I") k_X0_addCases_fieldLink_RX0_34_SR_Code_caseCount_I) (fun _ q9 => q9) dX0_addCases_45 (fun H locs hC => ?_)
      refine lv_aload_n hx hb dX0_addCases_48 rfl (lv_at hl 0 rfl) ?_
      refine lv_bipush (v := 6) hx hb dX0_addCases_49 (by decide) ?_
      refine lv_iconst (v := 0) hx hb dX0_addCases_51 (by decide) ?_
      obtain ⟨p2, hcp2, hf⟩ := hf_bind hf
      have mo3 : CS.hs σ ≤ CS.hs p2.2 := Mono.go hcp2 (m_X0_add N (CS.setI σ 22 x1) 6 0)
      have hr9 : CS.hs p2.2 ≤ CS.hs R.2 := Mono.go hf (mono_bind (m_X0_add N p2.2 30 x2) (fun p6 => (mono_some (Nat.le_refl _))))
      have hFc := cFree hC hA
      refine va_callv (va_runV (As := [.int 6, .int 0]) (rest := []) ⟨hx, hb, hml, hown, hts⟩ (c_X0_add l dC dI Q N (CS.setI σ 22 x1) 6 0 p2 hcp2) (cwV 2 hts hX0_addCases_X0_add_v61 rfl rfl rfl (by decide +kernel) ⟨(show 2 + 1 ≤ 3 by omega), (show 8 + (3 + 11) + 60 * 2 ≤ 60 * 3 by omega)⟩) ⟨zPre.blind, va_recv hK hC.1 (ci := 0) (q0 := 2) rfl rfl, cPre_go hZ hK hC⟩ rfl rfl hl.1 rfl (lv_room (Nat.le_of_ble_eq_true rfl)) dX0_addCases_52 (cAcc h0 mo3 hr9)) hC.2.2.1 (fun q _ h => hFc q h) hFc (fun u9 t9 H1 locs ht hvm hw hB hz1 hk1 hS => ?_)
      obtain ⟨⟨hP, hK1, hD1⟩, hsz1⟩ := hB
      rw [ht] at hP hsz1
      have hC : CP dC dI Q A s.heap p2.2 H1 locs := ⟨hP, hD1.weaken (fun _ _ _ h => hFc _ h), hS, hsz1⟩
      generalize H1 = H at hC ⊢
      have h5 : z9h ≤ CS.hs p2.2 := Nat.le_trans h0 mo3
      refine W.widen (k := CS.hs p2.2 - z9h) (n := 17 * (CS.hs p2.2 - z9h)) (cAcc2 h0 mo3) (cAcc3 h0 mo3) ?_
      refine lv_aload_n hx hb dX0_addCases_55 rfl (lv_at hl 0 rfl) ?_
      refine lv_bipush (v := 30) hx hb dX0_addCases_56 (by decide) ?_
      refine lv_iload_n hx hb dX0_addCases_58 rfl (lv_at hl 2 rfl) ?_
      obtain ⟨p6, hcp6, hf⟩ := hf_bind hf
      have mo7 : CS.hs p2.2 ≤ CS.hs p6.2 := Mono.go hcp6 (m_X0_add N p2.2 30 x2)
      have hr9 : CS.hs p6.2 ≤ CS.hs R.2 := Mono.go hf (mono_some (Nat.le_refl _))
      have hFc := cFree hC hA
      refine va_callv (va_runV (As := [.int 30, .int x2]) (rest := []) ⟨hx, hb, hml, hown, hts⟩ (c_X0_add l dC dI Q N p2.2 30 x2 p6 hcp6) (cwV 2 hts hX0_addCases_X0_add_v61 rfl rfl rfl (by decide +kernel) ⟨(show 2 + 1 ≤ 3 by omega), (show 8 + (3 + 11) + 60 * 2 ≤ 60 * 3 by omega)⟩) ⟨zPre.blind, va_recv hK hC.1 (ci := 0) (q0 := 2) rfl rfl, cPre_go hZ hK hC⟩ rfl rfl hl.1 rfl (lv_room (Nat.le_of_ble_eq_true rfl)) dX0_addCases_59 (cAcc h5 mo7 hr9)) hC.2.2.1 (fun q _ h => hFc q h) hFc (fun u9 t9 H1 locs ht hvm hw hB hz1 hk1 hS => ?_)
      obtain ⟨⟨hP, hK1, hD1⟩, hsz1⟩ := hB
      rw [ht] at hP hsz1
      have hC : CP dC dI Q A s.heap p6.2 H1 locs := ⟨hP, hD1.weaken (fun _ _ _ h => hFc _ h), hS, hsz1⟩
      generalize H1 = H at hC ⊢
      have h9 : z9h ≤ CS.hs p6.2 := Nat.le_trans h5 mo7
      refine W.widen (k := CS.hs p6.2 - z9h) (n := 17 * (CS.hs p6.2 - z9h)) (cAcc2 h5 mo7) (cAcc3 h5 mo7) ?_
      obtain rfl := Option.some.inj hf
      exact W.vret hx hb hr (fun t ht hW => ⟨⟨(), rfl, trivial, ⟨by rw [ht]; exact hC.1, va_K.moved hW.alike hK, hC.2.1⟩, by rw [ht]; exact hC.2.2.2⟩, hC.2.2.1.F ht⟩) hC.2.2.1.2.2 dX0_addCases_62
    ·
      replace hf := (if_neg c1).symm.trans hf
      refine lv_aload_n hx hb dX0_addCases_10 rfl (lv_at hl 0 rfl) ?_
      refine lv_iconst (v := 0) hx hb dX0_addCases_11 (by decide) ?_
      refine lv_aload_n hx hb dX0_addCases_12 rfl (lv_at hl 0 rfl) ?_
      refine cG_18 hx hb hts i_X0_addCases_X0 hown hK hC (hts (.fieldLink RX0 21 "StatementRules2$Code" "caseValues" "[I") k_X0_addCases_fieldLink_RX0_21_SR_Code_caseValues_I) (fun _ q9 => q9) dX0_addCases_13 ?_
      refine lv_iload_n hx hb dX0_addCases_16 rfl (lv_at hl 3 rfl) ?_
      have he9 := (cArr_18 (Q := Q) (σ := σ))
      have hFc := cFree1 hC hA he9
      have hr9 : CS.hs σ ≤ CS.hs R.2 := Mono.go hf (mono_bind (m_X0_add N σ 0 (gAt (σ.a 18) 320 x3)) (fun p11 => (mono_bind (m_X0_add N p11.2 34 (gAt (p11.2.a 19) 320 x3)) (fun p16 => (hMK p16.2 x1 x2 (x3 + 1))))))
      refine va_calli (va_runSN (As := [.ref (Q.q 18), .int x3]) (rest := [.int 0, .ref (Q.o 2)]) ⟨hx, hb, hml, hown, hts⟩ (c_X11_at l dC dI _ (Q.q 18) (Q.c 0) 320 (σ.a 18) x3 (by decide)) ⟨va_cnB 2 hts hX0_addCases_X11_at_n57 rfl rfl rfl (hZ.1 (.methodLinkNest RX0 57 yX11_at "StatementRules2") (by decide +kernel)) (hts (.initialized RX11) k_X0_addCases_initialized_RX11) (by decide +kernel) ⟨(show 1 + 1 ≤ 3 by omega), (show 8 + (2 + 11) + 60 * 1 ≤ 60 * 3 by omega)⟩, (hts (.static yX11_at) k_X0_addCases_static_yX11_at), trivial⟩ ⟨zPre.blind, zPre.go hZ (cOne hC.1 he9) (hK.sub (tys' := [(Q.c 0, .int)]) [0] rfl) (cOneD hC.2.1 he9)⟩ rfl rfl hl.1 rfl (lv_room (Nat.le_of_ble_eq_true rfl)) dX0_addCases_17 ⟨cAcc4 h0 hr9, cAcc5 h0 hr9⟩) hC.2.2.1 (fun q _ h => hFc q h) hFc (fun r10 u9 t9 H1 locs ht hvm hw hB hz1 hk1 hS => ?_)
      obtain ⟨⟨hP1, hK1, hD1⟩, hsz1⟩ := hB
      rw [ht] at hP1 hsz1
      have hC := cBack (σ' := σ) hC he9 (cSelf he9) (Eq.refl (CS.hs σ)) hk1 hP1 hsz1 hS
      generalize H1 = H at hC ⊢
      obtain rfl : r10 = (gAt (σ.a 18) 320 x3) := hw
      obtain ⟨p11, hcp11, hf⟩ := hf_bind hf
      have mo12 : CS.hs σ ≤ CS.hs p11.2 := Mono.go hcp11 (m_X0_add N σ 0 (gAt (σ.a 18) 320 x3))
      have hr9 : CS.hs p11.2 ≤ CS.hs R.2 := Mono.go hf (mono_bind (m_X0_add N p11.2 34 (gAt (p11.2.a 19) 320 x3)) (fun p16 => (hMK p16.2 x1 x2 (x3 + 1))))
      have hFc := cFree hC hA
      refine va_callv (va_runV (As := [.int 0, .int (gAt (σ.a 18) 320 x3)]) (rest := []) ⟨hx, hb, hml, hown, hts⟩ (c_X0_add l dC dI Q N σ 0 (gAt (σ.a 18) 320 x3) p11 hcp11) (cwV 2 hts hX0_addCases_X0_add_v61 rfl rfl rfl (by decide +kernel) ⟨(show 2 + 1 ≤ 3 by omega), (show 8 + (3 + 11) + 60 * 2 ≤ 60 * 3 by omega)⟩) ⟨zPre.blind, va_recv hK hC.1 (ci := 0) (q0 := 2) rfl rfl, cPre_go hZ hK hC⟩ rfl rfl hl.1 rfl (lv_room (Nat.le_of_ble_eq_true rfl)) dX0_addCases_20 (cAcc h0 mo12 hr9)) hC.2.2.1 (fun q _ h => hFc q h) hFc (fun u9 t9 H1 locs ht hvm hw hB hz1 hk1 hS => ?_)
      obtain ⟨⟨hP, hK1, hD1⟩, hsz1⟩ := hB
      rw [ht] at hP hsz1
      have hC : CP dC dI Q A s.heap p11.2 H1 locs := ⟨hP, hD1.weaken (fun _ _ _ h => hFc _ h), hS, hsz1⟩
      generalize H1 = H at hC ⊢
      have h14 : z9h ≤ CS.hs p11.2 := Nat.le_trans h0 mo12
      refine W.widen (k := CS.hs p11.2 - z9h) (n := 17 * (CS.hs p11.2 - z9h)) (cAcc2 h0 mo12) (cAcc3 h0 mo12) ?_
      refine lv_aload_n hx hb dX0_addCases_23 rfl (lv_at hl 0 rfl) ?_
      refine lv_bipush (v := 34) hx hb dX0_addCases_24 (by decide) ?_
      refine lv_aload_n hx hb dX0_addCases_26 rfl (lv_at hl 0 rfl) ?_
      refine cG_19 hx hb hts i_X0_addCases_X0 hown hK hC (hts (.fieldLink RX0 24 "StatementRules2$Code" "caseTargets" "[I") k_X0_addCases_fieldLink_RX0_24_SR_Code_caseTargets_I) (fun _ q9 => q9) dX0_addCases_27 ?_
      refine lv_iload_n hx hb dX0_addCases_30 rfl (lv_at hl 3 rfl) ?_
      have he9 := (cArr_19 (Q := Q) (σ := p11.2))
      have hFc := cFree1 hC hA he9
      have hr9 : CS.hs p11.2 ≤ CS.hs R.2 := Mono.go hf (mono_bind (m_X0_add N p11.2 34 (gAt (p11.2.a 19) 320 x3)) (fun p16 => (hMK p16.2 x1 x2 (x3 + 1))))
      refine va_calli (va_runSN (As := [.ref (Q.q 19), .int x3]) (rest := [.int 34, .ref (Q.o 2)]) ⟨hx, hb, hml, hown, hts⟩ (c_X11_at l dC dI _ (Q.q 19) (Q.c 0) 320 (p11.2.a 19) x3 (by decide)) ⟨va_cnB 2 hts hX0_addCases_X11_at_n57 rfl rfl rfl (hZ.1 (.methodLinkNest RX0 57 yX11_at "StatementRules2") (by decide +kernel)) (hts (.initialized RX11) k_X0_addCases_initialized_RX11) (by decide +kernel) ⟨(show 1 + 1 ≤ 3 by omega), (show 8 + (2 + 11) + 60 * 1 ≤ 60 * 3 by omega)⟩, (hts (.static yX11_at) k_X0_addCases_static_yX11_at), trivial⟩ ⟨zPre.blind, zPre.go hZ (cOne hC.1 he9) (hK.sub (tys' := [(Q.c 0, .int)]) [0] rfl) (cOneD hC.2.1 he9)⟩ rfl rfl hl.1 rfl (lv_room (Nat.le_of_ble_eq_true rfl)) dX0_addCases_31 ⟨cAcc4 h14 hr9, cAcc5 h14 hr9⟩) hC.2.2.1 (fun q _ h => hFc q h) hFc (fun r15 u9 t9 H1 locs ht hvm hw hB hz1 hk1 hS => ?_)
      obtain ⟨⟨hP1, hK1, hD1⟩, hsz1⟩ := hB
      rw [ht] at hP1 hsz1
      have hC := cBack (σ' := p11.2) hC he9 (cSelf he9) (Eq.refl (CS.hs p11.2)) hk1 hP1 hsz1 hS
      generalize H1 = H at hC ⊢
      obtain rfl : r15 = (gAt (p11.2.a 19) 320 x3) := hw
      obtain ⟨p16, hcp16, hf⟩ := hf_bind hf
      have mo17 : CS.hs p11.2 ≤ CS.hs p16.2 := Mono.go hcp16 (m_X0_add N p11.2 34 (gAt (p11.2.a 19) 320 x3))
      have hr9 : CS.hs p16.2 ≤ CS.hs R.2 := Mono.go hf (hMK p16.2 x1 x2 (x3 + 1))
      have hFc := cFree hC hA
      refine va_callv (va_runV (As := [.int 34, .int (gAt (p11.2.a 19) 320 x3)]) (rest := []) ⟨hx, hb, hml, hown, hts⟩ (c_X0_add l dC dI Q N p11.2 34 (gAt (p11.2.a 19) 320 x3) p16 hcp16) (cwV 2 hts hX0_addCases_X0_add_v61 rfl rfl rfl (by decide +kernel) ⟨(show 2 + 1 ≤ 3 by omega), (show 8 + (3 + 11) + 60 * 2 ≤ 60 * 3 by omega)⟩) ⟨zPre.blind, va_recv hK hC.1 (ci := 0) (q0 := 2) rfl rfl, cPre_go hZ hK hC⟩ rfl rfl hl.1 rfl (lv_room (Nat.le_of_ble_eq_true rfl)) dX0_addCases_34 (cAcc h14 mo17 hr9)) hC.2.2.1 (fun q _ h => hFc q h) hFc (fun u9 t9 H1 locs ht hvm hw hB hz1 hk1 hS => ?_)
      obtain ⟨⟨hP, hK1, hD1⟩, hsz1⟩ := hB
      rw [ht] at hP hsz1
      have hC : CP dC dI Q A s.heap p16.2 H1 locs := ⟨hP, hD1.weaken (fun _ _ _ h => hFc _ h), hS, hsz1⟩
      generalize H1 = H at hC ⊢
      have h19 : z9h ≤ CS.hs p16.2 := Nat.le_trans h14 mo17
      refine W.widen (k := CS.hs p16.2 - z9h) (n := 17 * (CS.hs p16.2 - z9h)) (cAcc2 h14 mo17) (cAcc3 h14 mo17) ?_
      refine lv_iinc (v := (x3 + 1)) (lv' := [(3, .int (x3 + 1)), (0, .ref (Q.o 2)), (1, .int x1), (2, .int x2)]) hx hb dX0_addCases_37 hl (k := 3) rfl rfl (by decide) rfl (fun ls hl => ?_)
      refine lv_goto (tgt := 2) hx hb dX0_addCases_40 (by decide) ?_
      exact ih p16.2 x1 x2 (x3 + 1) _ _ _ hf h19 hC (lv_sub hl [1, 2, 3, 0] rfl)
set_option maxHeartbeats 4000000 in
set_option maxRecDepth 100000 in
theorem c_X0_addCases (l : Launch) (dC : Nat → ClassId) (dI : Nat → Nat → Nat) (Q : CQ) (N : Nat) (σ : CS) (x1 : Int32) (x2 : Int32) (R : Unit × CS) (hf : f_X0_addCases N σ x1 x2 = some R) : Met l yX0_addCases wzX0_addCases ({ frames := 3, cells := CS.hs R.2 - CS.hs σ, slots := 17 * (CS.hs R.2 - CS.hs σ), locals := 60 * 3 }) (va_Pc [.ref (Q.o 2), .int x1, .int x2] (zPre dC dI (CS.hs σ) (cW Q σ) (cT Q))) (va_Qv (fun (_ : Unit) => True) (fun (_ : Unit) (t : State) => zPost dC dI (va_A (cW Q σ) (CS.hs σ)) (cW Q R.2) (cT Q) t ∧ t.heap.size = CS.hs R.2) (va_A (cW Q σ) (CS.hs σ))) (CS.hs R.2 - CS.hs σ) (17 * (CS.hs R.2 - CS.hs σ)) (va_A (cW Q σ) (CS.hs σ)) := by
  refine Met.ofW (cc := cX0_addCases) (maxL := 4) (ret := none) (by decide) rfl ?_
  intro p e s m args below meth c s₁ B hml hv
  obtain ⟨rfl, hsz, hZ, hP, hK, hD0⟩ := hv
  have hx := B.exec
  have hb := B.bytes
  have hr := B.returns
  have hts := atoms_spec (ws := wzX0_addCases) B.pre
  have hown : s.vm.findClass RX0 = some m.cls := findClass_of_methodNamed B.named
  have hlocks := B.notSynchronized
  have hD := hD0.self (sz := CS.hs σ)
  generalize hAe : va_A (cW Q σ) (CS.hs σ) = A at hD ⊢
  have hA : ∀ q : Nat, s.heap.size ≤ q → A q := fun q h => by rw [← hAe]; exact Or.inr (hsz ▸ h)
  have hC : CP dC dI Q A s.heap σ s.heap [] := ⟨hP, hD, va_S.rf, hsz⟩
  have h0 : CS.hs σ ≤ CS.hs σ := Nat.le_refl _
  have hl := lv_entry ([.ref (Q.o 2), .int x1, .int x2]) (n := 4) (Nat.le_of_ble_eq_true rfl)
  rw [lg_entry_eq]
  generalize (lg_sl ([.ref (Q.o 2), .int x1, .int x2]) ++ List.replicate (4 - (lg_sl ([.ref (Q.o 2), .int x1, .int x2])).length) Slot.unset).toArray = ls at hl ⊢
  have hl : lv_has ls 4 [(0, .ref (Q.o 2)), (1, .int x1), (2, .int x2)] := hl
  unfold f_X0_addCases at hf
  refine W.widen (k := CS.hs σ - CS.hs σ) (n := 17 * (CS.hs σ - CS.hs σ)) (Nat.zero_le _) (Nat.zero_le _) ?_
  refine lv_iload_n hx hb dX0_addCases_0 rfl (lv_at hl 1 rfl) ?_
  refine lv_istore_n (lv' := [(3, .int x1), (0, .ref (Q.o 2)), (1, .int x1), (2, .int x2)]) hx hb dX0_addCases_1 rfl hl (by decide) rfl (fun ls hl => ?_)
  exact j_X0_addCases_2 l dC dI Q N (CS.hs σ) R hx hb hr hml hown hts hlocks hZ hA hK N σ x1 x2 x1 _ _ _ hf h0 hC (lv_sub hl [1, 2, 3, 0] rfl)
theorem k_X9_stop_fieldLink_RX9_31_SR_Tokens_length_I : Cond.fieldLink RX9 31 "StatementRules2$Tokens" "length" "I" ∈ wzX9_stop := List.mem_cons_of_mem _ (List.mem_append_left _ (List.mem_of_getElem? (i := 0) rfl))
theorem i_X9_stop_X9 : ∀ w ∈ wsX90, w ∈ wzX9_stop := fun _ h => List.mem_cons_of_mem _ (List.mem_append_right _ (List.mem_append_left _ (h)))
theorem k_X9_stop_fieldLink_RX9_34_SR_Tokens_next_I : Cond.fieldLink RX9 34 "StatementRules2$Tokens" "next" "I" ∈ wzX9_stop := List.mem_cons_of_mem _ (List.mem_append_left _ (List.mem_of_getElem? (i := 1) rfl))
theorem k_X9_stop_fieldLink_RX9_40_SR_Tokens_type_I : Cond.fieldLink RX9 40 "StatementRules2$Tokens" "type" "I" ∈ wzX9_stop := List.mem_cons_of_mem _ (List.mem_append_left _ (List.mem_of_getElem? (i := 2) rfl))
set_option maxHeartbeats 4000000 in
set_option maxRecDepth 100000 in
theorem c_X9_stop (l : Launch) (dC : Nat → ClassId) (dI : Nat → Nat → Nat) (Q : CQ) (N : Nat) (σ : CS) (R : Unit × CS) (hf : f_X9_stop N σ = some R) : Met l yX9_stop wzX9_stop ({ frames := 1, cells := CS.hs R.2 - CS.hs σ, slots := 17 * (CS.hs R.2 - CS.hs σ), locals := 60 * 1 }) (va_Pc [.ref (Q.o 4)] (zPre dC dI (CS.hs σ) (cW Q σ) (cT Q))) (va_Qv (fun (_ : Unit) => True) (fun (_ : Unit) (t : State) => zPost dC dI (va_A (cW Q σ) (CS.hs σ)) (cW Q R.2) (cT Q) t ∧ t.heap.size = CS.hs R.2) (va_A (cW Q σ) (CS.hs σ))) (CS.hs R.2 - CS.hs σ) (17 * (CS.hs R.2 - CS.hs σ)) (va_A (cW Q σ) (CS.hs σ)) := by
  refine Met.ofW (cc := cX9_stop) (maxL := 1) (ret := none) (by decide) rfl ?_
  intro p e s m args below meth c s₁ B hml hv
  obtain ⟨rfl, hsz, hZ, hP, hK, hD0⟩ := hv
  have hx := B.exec
  have hb := B.bytes
  have hr := B.returns
  have hts := atoms_spec (ws := wzX9_stop) B.pre
  have hown : s.vm.findClass RX9 = some m.cls := findClass_of_methodNamed B.named
  have hlocks := B.notSynchronized
  have hD := hD0.self (sz := CS.hs σ)
  generalize hAe : va_A (cW Q σ) (CS.hs σ) = A at hD ⊢
  have hA : ∀ q : Nat, s.heap.size ≤ q → A q := fun q h => by rw [← hAe]; exact Or.inr (hsz ▸ h)
  have hC : CP dC dI Q A s.heap σ s.heap [] := ⟨hP, hD, va_S.rf, hsz⟩
  have h0 : CS.hs σ ≤ CS.hs σ := Nat.le_refl _
  have hl := lv_entry ([.ref (Q.o 4)]) (n := 1) (Nat.le_of_ble_eq_true rfl)
  rw [lg_entry_eq]
  generalize (lg_sl ([.ref (Q.o 4)]) ++ List.replicate (1 - (lg_sl ([.ref (Q.o 4)])).length) Slot.unset).toArray = ls at hl ⊢
  have hl : lv_has ls 1 [(0, .ref (Q.o 4))] := hl
  unfold f_X9_stop at hf
  refine W.widen (k := CS.hs σ - CS.hs σ) (n := 17 * (CS.hs σ - CS.hs σ)) (Nat.zero_le _) (Nat.zero_le _) ?_
  refine lv_aload_n hx hb dX9_stop_0 rfl (lv_at hl 0 rfl) ?_
  refine lv_aload_n hx hb dX9_stop_1 rfl (lv_at hl 0 rfl) ?_
  refine cG_41 (v := (σ.i 41)) hx hb hts i_X9_stop_X9 hown hK hC (hts (.fieldLink RX9 31 "StatementRules2$Tokens" "length" "I") k_X9_stop_fieldLink_RX9_31_SR_Tokens_length_I) (fun _ q9 => q9) dX9_stop_2 rfl ?_
  refine cP_42 (v := (σ.i 41)) hx hb hts i_X9_stop_X9 hown hK hC (hts (.fieldLink RX9 34 "StatementRules2$Tokens" "next" "I") k_X9_stop_fieldLink_RX9_34_SR_Tokens_next_I) (fun _ q9 => q9) dX9_stop_5 (fun H locs hC => ?_)
  refine lv_aload_n hx hb dX9_stop_8 rfl (lv_at hl 0 rfl) ?_
  refine lv_iconst (v := 0) hx hb dX9_stop_9 (by decide) ?_
  refine cP_43 (v := 0) hx hb hts i_X9_stop_X9 hown hK hC (hts (.fieldLink RX9 40 "StatementRules2$Tokens" "type" "I") k_X9_stop_fieldLink_RX9_40_SR_Tokens_type_I) (fun _ q9 => q9) dX9_stop_10 (fun H locs hC => ?_)
  obtain rfl := Option.some.inj hf
  exact W.vret hx hb hr (fun t ht hW => ⟨⟨(), rfl, trivial, ⟨by rw [ht]; exact hC.1, va_K.moved hW.alike hK, hC.2.1⟩, by rw [ht]; exact hC.2.2.2⟩, hC.2.2.1.F ht⟩) hC.2.2.1.2.2 dX9_stop_13
theorem k_X1_fail_fieldLink_RX1_30_SR_Formulas_faultNumber_I : Cond.fieldLink RX1 30 "StatementRules2$Formulas" "faultNumber" "I" ∈ wzX1_fail := List.mem_cons_of_mem _ (List.mem_append_left _ (List.mem_of_getElem? (i := 0) rfl))
theorem i_X1_fail_X7 : ∀ w ∈ wsX70, w ∈ wzX1_fail := fun _ h => List.mem_cons_of_mem _ (List.mem_append_right _ (List.mem_append_left _ (h)))
theorem k_X1_fail_fieldLink_RX1_34_SR_Formulas_faultPlace_I : Cond.fieldLink RX1 34 "StatementRules2$Formulas" "faultPlace" "I" ∈ wzX1_fail := List.mem_cons_of_mem _ (List.mem_append_left _ (List.mem_of_getElem? (i := 1) rfl))
theorem k_X1_fail_fieldLink_RX1_18_SR_Formulas_tokens_LSR_Tokens : Cond.fieldLink RX1 18 "StatementRules2$Formulas" "tokens" "LStatementRules2$Tokens;" ∈ wzX1_fail := List.mem_cons_of_mem _ (List.mem_append_left _ (List.mem_of_getElem? (i := 2) rfl))
set_option maxHeartbeats 4000000 in
set_option maxRecDepth 100000 in
theorem c_X1_fail (l : Launch) (dC : Nat → ClassId) (dI : Nat → Nat → Nat) (Q : CQ) (N : Nat) (σ : CS) (x1 : Int32) (x2 : Int32) (R : Unit × CS) (hf : f_X1_fail N σ x1 x2 = some R) : Met l yX1_fail wzX1_fail ({ frames := 2, cells := CS.hs R.2 - CS.hs σ, slots := 17 * (CS.hs R.2 - CS.hs σ), locals := 60 * 2 }) (va_Pc [.ref (Q.o 3), .int x1, .int x2] (zPre dC dI (CS.hs σ) (cW Q σ) (cT Q))) (va_Qv (fun (_ : Unit) => True) (fun (_ : Unit) (t : State) => zPost dC dI (va_A (cW Q σ) (CS.hs σ)) (cW Q R.2) (cT Q) t ∧ t.heap.size = CS.hs R.2) (va_A (cW Q σ) (CS.hs σ))) (CS.hs R.2 - CS.hs σ) (17 * (CS.hs R.2 - CS.hs σ)) (va_A (cW Q σ) (CS.hs σ)) := by
  refine Met.ofW (cc := cX1_fail) (maxL := 3) (ret := none) (by decide) rfl ?_
  intro p e s m args below meth c s₁ B hml hv
  obtain ⟨rfl, hsz, hZ, hP, hK, hD0⟩ := hv
  have hx := B.exec
  have hb := B.bytes
  have hr := B.returns
  have hts := atoms_spec (ws := wzX1_fail) B.pre
  have hown : s.vm.findClass RX1 = some m.cls := findClass_of_methodNamed B.named
  have hlocks := B.notSynchronized
  have hD := hD0.self (sz := CS.hs σ)
  generalize hAe : va_A (cW Q σ) (CS.hs σ) = A at hD ⊢
  have hA : ∀ q : Nat, s.heap.size ≤ q → A q := fun q h => by rw [← hAe]; exact Or.inr (hsz ▸ h)
  have hC : CP dC dI Q A s.heap σ s.heap [] := ⟨hP, hD, va_S.rf, hsz⟩
  have h0 : CS.hs σ ≤ CS.hs σ := Nat.le_refl _
  have hl := lv_entry ([.ref (Q.o 3), .int x1, .int x2]) (n := 3) (Nat.le_of_ble_eq_true rfl)
  rw [lg_entry_eq]
  generalize (lg_sl ([.ref (Q.o 3), .int x1, .int x2]) ++ List.replicate (3 - (lg_sl ([.ref (Q.o 3), .int x1, .int x2])).length) Slot.unset).toArray = ls at hl ⊢
  have hl : lv_has ls 3 [(0, .ref (Q.o 3)), (1, .int x1), (2, .int x2)] := hl
  unfold f_X1_fail at hf
  refine W.widen (k := CS.hs σ - CS.hs σ) (n := 17 * (CS.hs σ - CS.hs σ)) (Nat.zero_le _) (Nat.zero_le _) ?_
  refine lv_aload_n hx hb dX1_fail_0 rfl (lv_at hl 0 rfl) ?_
  refine cG_32 (v := (σ.i 32)) hx hb hts i_X1_fail_X7 hown hK hC (hts (.fieldLink RX1 30 "StatementRules2$Formulas" "faultNumber" "I") k_X1_fail_fieldLink_RX1_30_SR_Formulas_faultNumber_I) (fun _ q9 => q9) dX1_fail_1 rfl ?_
  refine lv_if_ne (tgt := 24) hx hb dX1_fail_4 (by decide) (fun c1 => ?_) (fun c1 => ?_)
  ·
    replace hf := (if_neg c1).symm.trans hf
    obtain rfl := Option.some.inj hf
    exact W.vret hx hb hr (fun t ht hW => ⟨⟨(), rfl, trivial, ⟨by rw [ht]; exact hC.1, va_K.moved hW.alike hK, hC.2.1⟩, by rw [ht]; exact hC.2.2.2⟩, hC.2.2.1.F ht⟩) hC.2.2.1.2.2 dX1_fail_24
  ·
    replace hf := (if_pos c1).symm.trans hf
    refine lv_aload_n hx hb dX1_fail_7 rfl (lv_at hl 0 rfl) ?_
    refine lv_iload_n hx hb dX1_fail_8 rfl (lv_at hl 1 rfl) ?_
    refine cP_32 (v := x1) hx hb hts i_X1_fail_X7 hown hK hC (hts (.fieldLink RX1 30 "StatementRules2$Formulas" "faultNumber" "I") k_X1_fail_fieldLink_RX1_30_SR_Formulas_faultNumber_I) (fun _ q9 => q9) dX1_fail_9 (fun H locs hC => ?_)
    refine lv_aload_n hx hb dX1_fail_12 rfl (lv_at hl 0 rfl) ?_
    refine lv_iload_n hx hb dX1_fail_13 rfl (lv_at hl 2 rfl) ?_
    refine cP_33 (v := x2) hx hb hts i_X1_fail_X7 hown hK hC (hts (.fieldLink RX1 34 "StatementRules2$Formulas" "faultPlace" "I") k_X1_fail_fieldLink_RX1_34_SR_Formulas_faultPlace_I) (fun _ q9 => q9) dX1_fail_14 (fun H locs hC => ?_)
    refine lv_aload_n hx hb dX1_fail_17 rfl (lv_at hl 0 rfl) ?_
    refine cG_28 hx hb hts i_X1_fail_X7 hown hK hC (hts (.fieldLink RX1 18 "StatementRules2$Formulas" "tokens" "LStatementRules2$Tokens;") k_X1_fail_fieldLink_RX1_18_SR_Formulas_tokens_LSR_Tokens) (fun _ q9 => q9) dX1_fail_18 ?_
    obtain ⟨p2, hcp2, hf⟩ := hf_bind hf
    have mo3 : CS.hs σ ≤ CS.hs p2.2 := Mono.go hcp2 (m_X9_stop N (CS.setI (CS.setI σ 32 x1) 33 x2))
    have hr9 : CS.hs p2.2 ≤ CS.hs R.2 := Mono.go hf (mono_some (Nat.le_refl _))
    have hFc := cFree hC hA
    refine va_callv (va_runV (As := []) (rest := []) ⟨hx, hb, hml, hown, hts⟩ (c_X9_stop l dC dI Q N (CS.setI (CS.setI σ 32 x1) 33 x2) p2 hcp2) (cwV 0 hts hX1_fail_X9_stop_v37 rfl rfl rfl (by decide +kernel) ⟨(show 1 + 1 ≤ 2 by omega), (show 8 + (1 + 11) + 60 * 1 ≤ 60 * 2 by omega)⟩) ⟨zPre.blind, va_recv hK hC.1 (ci := 8) (q0 := 4) rfl rfl, cPre_go hZ hK hC⟩ rfl rfl hl.1 rfl (lv_room (Nat.le_of_ble_eq_true rfl)) dX1_fail_21 (cAcc h0 mo3 hr9)) hC.2.2.1 (fun q _ h => hFc q h) hFc (fun u9 t9 H1 locs ht hvm hw hB hz1 hk1 hS => ?_)
    obtain ⟨⟨hP, hK1, hD1⟩, hsz1⟩ := hB
    rw [ht] at hP hsz1
    have hC : CP dC dI Q A s.heap p2.2 H1 locs := ⟨hP, hD1.weaken (fun _ _ _ h => hFc _ h), hS, hsz1⟩
    generalize H1 = H at hC ⊢
    have h5 : (CS.hs σ) ≤ CS.hs p2.2 := Nat.le_trans h0 mo3
    refine W.widen (k := CS.hs p2.2 - (CS.hs σ)) (n := 17 * (CS.hs p2.2 - (CS.hs σ))) (cAcc2 h0 mo3) (cAcc3 h0 mo3) ?_
    obtain rfl := Option.some.inj hf
    exact W.vret hx hb hr (fun t ht hW => ⟨⟨(), rfl, trivial, ⟨by rw [ht]; exact hC.1, va_K.moved hW.alike hK, hC.2.1⟩, by rw [ht]; exact hC.2.2.2⟩, hC.2.2.1.F ht⟩) hC.2.2.1.2.2 dX1_fail_24
theorem k_X1_found_fieldLink_RX1_18_SR_Formulas_tokens_LSR_Tokens : Cond.fieldLink RX1 18 "StatementRules2$Formulas" "tokens" "LStatementRules2$Tokens;" ∈ wzX1_found := List.mem_cons_of_mem _ (List.mem_append_left _ (List.mem_of_getElem? (i := 0) rfl))
theorem i_X1_found_X7 : ∀ w ∈ wsX70, w ∈ wzX1_found := fun _ h => List.mem_cons_of_mem _ (List.mem_append_right _ (List.mem_append_left _ (h)))
theorem i_X1_found_X9 : ∀ w ∈ wsX90, w ∈ wzX1_found := fun _ h => List.mem_cons_of_mem _ (List.mem_append_right _ (List.mem_append_right _ (List.mem_append_left _ (h))))
set_option maxHeartbeats 4000000 in
set_option maxRecDepth 100000 in
theorem c_X1_found (l : Launch) (dC : Nat → ClassId) (dI : Nat → Nat → Nat) (Q : CQ) (N : Nat) (σ : CS) (x1 : Int32) (R : Int32 × CS) (hf : f_X1_found N σ x1 = some R) : Met l yX1_found wzX1_found ({ frames := 1, cells := CS.hs R.2 - CS.hs σ, slots := 17 * (CS.hs R.2 - CS.hs σ), locals := 60 * 1 }) (va_Pc [.ref (Q.o 3), .int x1] (zPre dC dI (CS.hs σ) (cW Q σ) (cT Q))) (va_Qi (fun (r : Int32) (_ : Unit) => r = R.1) (fun (_ : Unit) (t : State) => zPost dC dI (va_A (cW Q σ) (CS.hs σ)) (cW Q R.2) (cT Q) t ∧ t.heap.size = CS.hs R.2) (va_A (cW Q σ) (CS.hs σ))) (CS.hs R.2 - CS.hs σ) (17 * (CS.hs R.2 - CS.hs σ)) (va_A (cW Q σ) (CS.hs σ)) := by
  refine Met.ofW (cc := cX1_found) (maxL := 2) (ret := (some .boolean)) (by decide) rfl ?_
  intro p e s m args below meth c s₁ B hml hv
  obtain ⟨rfl, hsz, hZ, hP, hK, hD0⟩ := hv
  have hx := B.exec
  have hb := B.bytes
  have hr := B.returns
  have hts := atoms_spec (ws := wzX1_found) B.pre
  have hown : s.vm.findClass RX1 = some m.cls := findClass_of_methodNamed B.named
  have hlocks := B.notSynchronized
  have hD := hD0.self (sz := CS.hs σ)
  generalize hAe : va_A (cW Q σ) (CS.hs σ) = A at hD ⊢
  have hA : ∀ q : Nat, s.heap.size ≤ q → A q := fun q h => by rw [← hAe]; exact Or.inr (hsz ▸ h)
  have hC : CP dC dI Q A s.heap σ s.heap [] := ⟨hP, hD, va_S.rf, hsz⟩
  have h0 : CS.hs σ ≤ CS.hs σ := Nat.le_refl _
  have hl := lv_entry ([.ref (Q.o 3), .int x1]) (n := 2) (Nat.le_of_ble_eq_true rfl)
  rw [lg_entry_eq]
  generalize (lg_sl ([.ref (Q.o 3), .int x1]) ++ List.replicate (2 - (lg_sl ([.ref (Q.o 3), .int x1])).length) Slot.unset).toArray = ls at hl ⊢
  have hl : lv_has ls 2 [(0, .ref (Q.o 3)), (1, .int x1)] := hl
  unfold f_X1_found at hf
  refine W.widen (k := CS.hs σ - CS.hs σ) (n := 17 * (CS.hs σ - CS.hs σ)) (Nat.zero_le _) (Nat.zero_le _) ?_
  refine lv_aload_n hx hb dX1_found_0 rfl (lv_at hl 0 rfl) ?_
  refine cG_28 hx hb hts i_X1_found_X7 hown hK hC (hts (.fieldLink RX1 18 "StatementRules2$Formulas" "tokens" "LStatementRules2$Tokens;") k_X1_found_fieldLink_RX1_18_SR_Formulas_tokens_LSR_Tokens) (fun _ q9 => q9) dX1_found_1 ?_
  refine cGN_43 (v := (σ.i 43)) hx hb hts i_X1_found_X9 hown hK hC (va_Nw.use rfl (hZ.1 (.fieldLinkNest RX1 53 "StatementRules2$Tokens" "type" "I" "StatementRules2") (by decide +kernel))) (fun _ q9 => q9) dX1_found_4 rfl ?_
  refine lv_iload_n hx hb dX1_found_7 rfl (lv_at hl 1 rfl) ?_
  refine lv_icmp_ne (tgt := 15) hx hb dX1_found_8 (by decide) (fun c1 => ?_) (fun c1 => ?_)
  ·
    replace hf := (if_neg c1).symm.trans hf
    refine lv_iconst (v := 0) hx hb dX1_found_15 (by decide) ?_
    obtain rfl := Option.some.inj hf
    exact W.zret (v := 0) hx hb hr (rfl) (fun t ht hW => ⟨⟨0, (), rfl, rfl, ⟨by rw [ht]; exact hC.1, va_K.moved hW.alike hK, hC.2.1⟩, by rw [ht]; exact hC.2.2.2⟩, hC.2.2.1.F ht⟩) hC.2.2.1.2.2 dX1_found_16
  ·
    replace hf := (if_pos c1).symm.trans hf
    refine lv_iconst (v := 1) hx hb dX1_found_11 (by decide) ?_
    refine lv_goto (tgt := 16) hx hb dX1_found_12 (by decide) ?_
    obtain rfl := Option.some.inj hf
    exact W.zret (v := 1) hx hb hr (rfl) (fun t ht hW => ⟨⟨1, (), rfl, rfl, ⟨by rw [ht]; exact hC.1, va_K.moved hW.alike hK, hC.2.1⟩, by rw [ht]; exact hC.2.2.2⟩, hC.2.2.1.F ht⟩) hC.2.2.1.2.2 dX1_found_16
theorem k_X1_misplaced_fieldLink_RX1_18_SR_Formulas_tokens_LSR_Tokens : Cond.fieldLink RX1 18 "StatementRules2$Formulas" "tokens" "LStatementRules2$Tokens;" ∈ wzX1_misplaced := List.mem_cons_of_mem _ (List.mem_append_left _ (List.mem_of_getElem? (i := 0) rfl))
theorem i_X1_misplaced_X7 : ∀ w ∈ wsX70, w ∈ wzX1_misplaced := fun _ h => List.mem_cons_of_mem _ (List.mem_append_right _ (List.mem_append_left _ (h)))
theorem i_X1_misplaced_X9 : ∀ w ∈ wsX90, w ∈ wzX1_misplaced := fun _ h => List.mem_cons_of_mem _ (List.mem_append_right _ (List.mem_append_right _ (List.mem_append_left _ (h))))
set_option maxHeartbeats 4000000 in
set_option maxRecDepth 100000 in
theorem c_X1_misplaced (l : Launch) (dC : Nat → ClassId) (dI : Nat → Nat → Nat) (Q : CQ) (N : Nat) (σ : CS) (R : Unit × CS) (hf : f_X1_misplaced N σ = some R) : Met l yX1_misplaced wzX1_misplaced ({ frames := 3, cells := CS.hs R.2 - CS.hs σ, slots := 17 * (CS.hs R.2 - CS.hs σ), locals := 60 * 3 }) (va_Pc [.ref (Q.o 3)] (zPre dC dI (CS.hs σ) (cW Q σ) (cT Q))) (va_Qv (fun (_ : Unit) => True) (fun (_ : Unit) (t : State) => zPost dC dI (va_A (cW Q σ) (CS.hs σ)) (cW Q R.2) (cT Q) t ∧ t.heap.size = CS.hs R.2) (va_A (cW Q σ) (CS.hs σ))) (CS.hs R.2 - CS.hs σ) (17 * (CS.hs R.2 - CS.hs σ)) (va_A (cW Q σ) (CS.hs σ)) := by
  refine Met.ofW (cc := cX1_misplaced) (maxL := 1) (ret := none) (by decide) rfl ?_
  intro p e s m args below meth c s₁ B hml hv
  obtain ⟨rfl, hsz, hZ, hP, hK, hD0⟩ := hv
  have hx := B.exec
  have hb := B.bytes
  have hr := B.returns
  have hts := atoms_spec (ws := wzX1_misplaced) B.pre
  have hown : s.vm.findClass RX1 = some m.cls := findClass_of_methodNamed B.named
  have hlocks := B.notSynchronized
  have hD := hD0.self (sz := CS.hs σ)
  generalize hAe : va_A (cW Q σ) (CS.hs σ) = A at hD ⊢
  have hA : ∀ q : Nat, s.heap.size ≤ q → A q := fun q h => by rw [← hAe]; exact Or.inr (hsz ▸ h)
  have hC : CP dC dI Q A s.heap σ s.heap [] := ⟨hP, hD, va_S.rf, hsz⟩
  have h0 : CS.hs σ ≤ CS.hs σ := Nat.le_refl _
  have hl := lv_entry ([.ref (Q.o 3)]) (n := 1) (Nat.le_of_ble_eq_true rfl)
  rw [lg_entry_eq]
  generalize (lg_sl ([.ref (Q.o 3)]) ++ List.replicate (1 - (lg_sl ([.ref (Q.o 3)])).length) Slot.unset).toArray = ls at hl ⊢
  have hl : lv_has ls 1 [(0, .ref (Q.o 3))] := hl
  unfold f_X1_misplaced at hf
  refine W.widen (k := CS.hs σ - CS.hs σ) (n := 17 * (CS.hs σ - CS.hs σ)) (Nat.zero_le _) (Nat.zero_le _) ?_
  refine lv_aload_n hx hb dX1_misplaced_0 rfl (lv_at hl 0 rfl) ?_
  refine lv_aload_n hx hb dX1_misplaced_1 rfl (lv_at hl 0 rfl) ?_
  refine lv_bipush (v := 6) hx hb dX1_misplaced_2 (by decide) ?_
  obtain ⟨p1, hcp1, hf⟩ := hf_bind hf
  have mo2 : CS.hs σ ≤ CS.hs p1.2 := Mono.go hcp1 (m_X1_found N σ 6)
  have hr9 : CS.hs p1.2 ≤ CS.hs R.2 := Mono.go hf (mono_ite (mono_bind (m_X1_fail N p1.2 2 (p1.2.i 44)) (fun p6 => (mono_some (Nat.le_refl _)))) (mono_bind (m_X1_fail N p1.2 1 (p1.2.i 44)) (fun p10 => (mono_some (Nat.le_refl _)))))
  have hFc := cFree hC hA
  refine va_calli (va_runU (As := [.int 6]) (rest := [.ref (Q.o 3)]) ⟨hx, hb, hml, hown, hts⟩ (c_X1_found l dC dI Q N σ 6 p1 hcp1) (va_cwU 1 hts hX1_misplaced_X1_found_u42 rfl rfl rfl rfl (by decide +kernel) ⟨(show 1 + 1 ≤ 3 by omega), (show 8 + (2 + 11) + 60 * 1 ≤ 60 * 3 by omega)⟩) ⟨zPre.blind, va_recv hK hC.1 (ci := 6) (q0 := 3) rfl rfl, cPre_go hZ hK hC⟩ rfl rfl hl.1 rfl (lv_room (Nat.le_of_ble_eq_true rfl)) dX1_misplaced_4 (cAcc h0 mo2 hr9)) hC.2.2.1 (fun q _ h => hFc q h) hFc (fun r3 u9 t9 H1 locs ht hvm hw hB hz1 hk1 hS => ?_)
  obtain ⟨⟨hP, hK1, hD1⟩, hsz1⟩ := hB
  rw [ht] at hP hsz1
  have hC : CP dC dI Q A s.heap p1.2 H1 locs := ⟨hP, hD1.weaken (fun _ _ _ h => hFc _ h), hS, hsz1⟩
  generalize H1 = H at hC ⊢
  have h4 : (CS.hs σ) ≤ CS.hs p1.2 := Nat.le_trans h0 mo2
  refine W.widen (k := CS.hs p1.2 - (CS.hs σ)) (n := 17 * (CS.hs p1.2 - (CS.hs σ))) (cAcc2 h0 mo2) (cAcc3 h0 mo2) ?_
  obtain rfl : r3 = p1.1 := hw
  refine lv_if_eq (tgt := 14) hx hb dX1_misplaced_7 (by decide) (fun c5 => ?_) (fun c5 => ?_)
  ·
    replace hf := (if_pos c5).symm.trans hf
    refine lv_iconst (v := 2) hx hb dX1_misplaced_14 (by decide) ?_
    refine lv_aload_n hx hb dX1_misplaced_15 rfl (lv_at hl 0 rfl) ?_
    refine cG_28 hx hb hts i_X1_misplaced_X7 hown hK hC (hts (.fieldLink RX1 18 "StatementRules2$Formulas" "tokens" "LStatementRules2$Tokens;") k_X1_misplaced_fieldLink_RX1_18_SR_Formulas_tokens_LSR_Tokens) (fun _ q9 => q9) dX1_misplaced_16 ?_
    refine cGN_44 (v := (p1.2.i 44)) hx hb hts i_X1_misplaced_X9 hown hK hC (va_Nw.use rfl (hZ.1 (.fieldLinkNest RX1 46 "StatementRules2$Tokens" "place" "I" "StatementRules2") (by decide +kernel))) (fun _ q9 => q9) dX1_misplaced_19 rfl ?_
    obtain ⟨p6, hcp6, hf⟩ := hf_bind hf
    have mo7 : CS.hs p1.2 ≤ CS.hs p6.2 := Mono.go hcp6 (m_X1_fail N p1.2 2 (p1.2.i 44))
    have hr9 : CS.hs p6.2 ≤ CS.hs R.2 := Mono.go hf (mono_some (Nat.le_refl _))
    have hFc := cFree hC hA
    refine va_callv (va_runU (As := [.int 2, .int (p1.2.i 44)]) (rest := []) ⟨hx, hb, hml, hown, hts⟩ (c_X1_fail l dC dI Q N p1.2 2 (p1.2.i 44) p6 hcp6) (va_cwU 2 hts hX1_misplaced_X1_fail_u49 rfl rfl rfl rfl (by decide +kernel) ⟨(show 2 + 1 ≤ 3 by omega), (show 8 + (3 + 11) + 60 * 2 ≤ 60 * 3 by omega)⟩) ⟨zPre.blind, va_recv hK hC.1 (ci := 6) (q0 := 3) rfl rfl, cPre_go hZ hK hC⟩ rfl rfl hl.1 rfl (lv_room (Nat.le_of_ble_eq_true rfl)) dX1_misplaced_22 (cAcc h4 mo7 hr9)) hC.2.2.1 (fun q _ h => hFc q h) hFc (fun u9 t9 H1 locs ht hvm hw hB hz1 hk1 hS => ?_)
    obtain ⟨⟨hP, hK1, hD1⟩, hsz1⟩ := hB
    rw [ht] at hP hsz1
    have hC : CP dC dI Q A s.heap p6.2 H1 locs := ⟨hP, hD1.weaken (fun _ _ _ h => hFc _ h), hS, hsz1⟩
    generalize H1 = H at hC ⊢
    have h9 : (CS.hs σ) ≤ CS.hs p6.2 := Nat.le_trans h4 mo7
    refine W.widen (k := CS.hs p6.2 - (CS.hs σ)) (n := 17 * (CS.hs p6.2 - (CS.hs σ))) (cAcc2 h4 mo7) (cAcc3 h4 mo7) ?_
    obtain rfl := Option.some.inj hf
    exact W.vret hx hb hr (fun t ht hW => ⟨⟨(), rfl, trivial, ⟨by rw [ht]; exact hC.1, va_K.moved hW.alike hK, hC.2.1⟩, by rw [ht]; exact hC.2.2.2⟩, hC.2.2.1.F ht⟩) hC.2.2.1.2.2 dX1_misplaced_25
  ·
    replace hf := (if_neg c5).symm.trans hf
    refine lv_iconst (v := 1) hx hb dX1_misplaced_10 (by decide) ?_
    refine lv_goto (tgt := 15) hx hb dX1_misplaced_11 (by decide) ?_
    refine lv_aload_n hx hb dX1_misplaced_15 rfl (lv_at hl 0 rfl) ?_
    refine cG_28 hx hb hts i_X1_misplaced_X7 hown hK hC (hts (.fieldLink RX1 18 "StatementRules2$Formulas" "tokens" "LStatementRules2$Tokens;") k_X1_misplaced_fieldLink_RX1_18_SR_Formulas_tokens_LSR_Tokens) (fun _ q9 => q9) dX1_misplaced_16 ?_
    refine cGN_44 (v := (p1.2.i 44)) hx hb hts i_X1_misplaced_X9 hown hK hC (va_Nw.use rfl (hZ.1 (.fieldLinkNest RX1 46 "StatementRules2$Tokens" "place" "I" "StatementRules2") (by decide +kernel))) (fun _ q9 => q9) dX1_misplaced_19 rfl ?_
    obtain ⟨p10, hcp10, hf⟩ := hf_bind hf
    have mo11 : CS.hs p1.2 ≤ CS.hs p10.2 := Mono.go hcp10 (m_X1_fail N p1.2 1 (p1.2.i 44))
    have hr9 : CS.hs p10.2 ≤ CS.hs R.2 := Mono.go hf (mono_some (Nat.le_refl _))
    have hFc := cFree hC hA
    refine va_callv (va_runU (As := [.int 1, .int (p1.2.i 44)]) (rest := []) ⟨hx, hb, hml, hown, hts⟩ (c_X1_fail l dC dI Q N p1.2 1 (p1.2.i 44) p10 hcp10) (va_cwU 2 hts hX1_misplaced_X1_fail_u49 rfl rfl rfl rfl (by decide +kernel) ⟨(show 2 + 1 ≤ 3 by omega), (show 8 + (3 + 11) + 60 * 2 ≤ 60 * 3 by omega)⟩) ⟨zPre.blind, va_recv hK hC.1 (ci := 6) (q0 := 3) rfl rfl, cPre_go hZ hK hC⟩ rfl rfl hl.1 rfl (lv_room (Nat.le_of_ble_eq_true rfl)) dX1_misplaced_22 (cAcc h4 mo11 hr9)) hC.2.2.1 (fun q _ h => hFc q h) hFc (fun u9 t9 H1 locs ht hvm hw hB hz1 hk1 hS => ?_)
    obtain ⟨⟨hP, hK1, hD1⟩, hsz1⟩ := hB
    rw [ht] at hP hsz1
    have hC : CP dC dI Q A s.heap p10.2 H1 locs := ⟨hP, hD1.weaken (fun _ _ _ h => hFc _ h), hS, hsz1⟩
    generalize H1 = H at hC ⊢
    have h13 : (CS.hs σ) ≤ CS.hs p10.2 := Nat.le_trans h4 mo11
    refine W.widen (k := CS.hs p10.2 - (CS.hs σ)) (n := 17 * (CS.hs p10.2 - (CS.hs σ))) (cAcc2 h4 mo11) (cAcc3 h4 mo11) ?_
    obtain rfl := Option.some.inj hf
    exact W.vret hx hb hr (fun t ht hW => ⟨⟨(), rfl, trivial, ⟨by rw [ht]; exact hC.1, va_K.moved hW.alike hK, hC.2.1⟩, by rw [ht]; exact hC.2.2.2⟩, hC.2.2.1.F ht⟩) hC.2.2.1.2.2 dX1_misplaced_25
theorem k_X9_byteAt_fieldLink_RX9_31_SR_Tokens_length_I : Cond.fieldLink RX9 31 "StatementRules2$Tokens" "length" "I" ∈ wzX9_byteAt := List.mem_cons_of_mem _ (List.mem_append_left _ (List.mem_of_getElem? (i := 0) rfl))
theorem i_X9_byteAt_X9 : ∀ w ∈ wsX90, w ∈ wzX9_byteAt := fun _ h => List.mem_cons_of_mem _ (List.mem_append_right _ (List.mem_append_left _ (h)))
theorem k_X9_byteAt_fieldLink_RX9_15_SR_Tokens_tape_I : Cond.fieldLink RX9 15 "StatementRules2$Tokens" "tape" "[I" ∈ wzX9_byteAt := List.mem_cons_of_mem _ (List.mem_append_left _ (List.mem_of_getElem? (i := 1) rfl))
set_option maxHeartbeats 4000000 in
set_option maxRecDepth 100000 in
theorem j_X9_byteAt_30 {p : Program} {e : Env} {s : State} {m : MethodId} {args : Array Value} {below : List Frame} {meth : Method} {c : Code} {A : Nat → Prop} (l : Launch) (dC : Nat → ClassId) (dI : Nat → Nat → Nat) (Q : CQ) (N : Nat) (z9h : Nat) (R : Int32 × CS) (hx : p.tables.exec = Jvm.exec) (hb : c.code = cX9_byteAt) (hr : meth.sig.returnType = (some .int)) (hml : c.maxLocals = 2) (hown : s.vm.findClass RX9 = some m.cls) (hts : ∀ w ∈ wzX9_byteAt, w.before args s = true) (hlocks : meth.locks = false) (hZ : zAMB s) (hA : ∀ q : Nat, s.heap.size ≤ q → A q) (hK : va_K (dC, dI) vwCl (cT Q) s) : ∀ (σ : CS) (H : Heap) (locs : List Loc) (ls : Array Slot), f_X9_byteAt_30 N σ = some R → z9h ≤ CS.hs σ → CP dC dI Q A s.heap σ H locs → lv_has ls 2 [] → W p l e ({ frames := 1, cells := CS.hs R.2 - z9h, slots := 17 * (CS.hs R.2 - z9h), locals := 60 * 1 }) s m args below meth c H locs (CS.hs σ - z9h) (17 * (CS.hs σ - z9h)) (MQ below (va_Qi (fun (r : Int32) (_ : Unit) => r = R.1) (fun (_ : Unit) (t : State) => zPost dC dI A (cW Q R.2) (cT Q) t ∧ t.heap.size = CS.hs R.2) A) args s (CS.hs R.2 - z9h) (17 * (CS.hs R.2 - z9h)) A) (F0 m 30 ls []) := by
  intro σ  H locs ls hf h0 hC hl
  unfold f_X9_byteAt_30 at hf
  refine lv_iconst (v := (-1)) hx hb dX9_byteAt_30 (by decide) ?_
  obtain rfl := Option.some.inj hf
  exact W.iret (v := (-1)) hx hb hr (fun t ht hW => ⟨⟨(-1), (), rfl, rfl, ⟨by rw [ht]; exact hC.1, va_K.moved hW.alike hK, hC.2.1⟩, by rw [ht]; exact hC.2.2.2⟩, hC.2.2.1.F ht⟩) hC.2.2.1.2.2 dX9_byteAt_31
set_option maxHeartbeats 4000000 in
set_option maxRecDepth 100000 in
theorem c_X9_byteAt (l : Launch) (dC : Nat → ClassId) (dI : Nat → Nat → Nat) (Q : CQ) (N : Nat) (σ : CS) (x1 : Int32) (R : Int32 × CS) (hf : f_X9_byteAt N σ x1 = some R) : Met l yX9_byteAt wzX9_byteAt ({ frames := 1, cells := CS.hs R.2 - CS.hs σ, slots := 17 * (CS.hs R.2 - CS.hs σ), locals := 60 * 1 }) (va_Pc [.ref (Q.o 4), .int x1] (zPre dC dI (CS.hs σ) (cW Q σ) (cT Q))) (va_Qi (fun (r : Int32) (_ : Unit) => r = R.1) (fun (_ : Unit) (t : State) => zPost dC dI (va_A (cW Q σ) (CS.hs σ)) (cW Q R.2) (cT Q) t ∧ t.heap.size = CS.hs R.2) (va_A (cW Q σ) (CS.hs σ))) (CS.hs R.2 - CS.hs σ) (17 * (CS.hs R.2 - CS.hs σ)) (va_A (cW Q σ) (CS.hs σ)) := by
  refine Met.ofW (cc := cX9_byteAt) (maxL := 2) (ret := (some .int)) (by decide) rfl ?_
  intro p e s m args below meth c s₁ B hml hv
  obtain ⟨rfl, hsz, hZ, hP, hK, hD0⟩ := hv
  have hx := B.exec
  have hb := B.bytes
  have hr := B.returns
  have hts := atoms_spec (ws := wzX9_byteAt) B.pre
  have hown : s.vm.findClass RX9 = some m.cls := findClass_of_methodNamed B.named
  have hlocks := B.notSynchronized
  have hD := hD0.self (sz := CS.hs σ)
  generalize hAe : va_A (cW Q σ) (CS.hs σ) = A at hD ⊢
  have hA : ∀ q : Nat, s.heap.size ≤ q → A q := fun q h => by rw [← hAe]; exact Or.inr (hsz ▸ h)
  have hC : CP dC dI Q A s.heap σ s.heap [] := ⟨hP, hD, va_S.rf, hsz⟩
  have h0 : CS.hs σ ≤ CS.hs σ := Nat.le_refl _
  have hl := lv_entry ([.ref (Q.o 4), .int x1]) (n := 2) (Nat.le_of_ble_eq_true rfl)
  rw [lg_entry_eq]
  generalize (lg_sl ([.ref (Q.o 4), .int x1]) ++ List.replicate (2 - (lg_sl ([.ref (Q.o 4), .int x1])).length) Slot.unset).toArray = ls at hl ⊢
  have hl : lv_has ls 2 [(0, .ref (Q.o 4)), (1, .int x1)] := hl
  unfold f_X9_byteAt at hf
  refine W.widen (k := CS.hs σ - CS.hs σ) (n := 17 * (CS.hs σ - CS.hs σ)) (Nat.zero_le _) (Nat.zero_le _) ?_
  refine lv_iload_n hx hb dX9_byteAt_0 rfl (lv_at hl 1 rfl) ?_
  refine lv_if_lt (tgt := 30) hx hb dX9_byteAt_1 (by decide) (fun c1 => ?_) (fun c1 => ?_)
  ·
    replace hf := (if_pos c1).symm.trans hf
    exact j_X9_byteAt_30 l dC dI Q N (CS.hs σ) R hx hb hr hml hown hts hlocks hZ hA hK σ _ _ _ hf h0 hC (lv_sub hl [] rfl)
  ·
    replace hf := (if_neg c1).symm.trans hf
    refine lv_iload_n hx hb dX9_byteAt_4 rfl (lv_at hl 1 rfl) ?_
    refine lv_aload_n hx hb dX9_byteAt_5 rfl (lv_at hl 0 rfl) ?_
    refine cG_41 (v := (σ.i 41)) hx hb hts i_X9_byteAt_X9 hown hK hC (hts (.fieldLink RX9 31 "StatementRules2$Tokens" "length" "I") k_X9_byteAt_fieldLink_RX9_31_SR_Tokens_length_I) (fun _ q9 => q9) dX9_byteAt_6 rfl ?_
    refine lv_icmp_ge (tgt := 30) hx hb dX9_byteAt_9 (by decide) (fun c2 => ?_) (fun c2 => ?_)
    ·
      replace hf := (if_pos c2).symm.trans hf
      exact j_X9_byteAt_30 l dC dI Q N (CS.hs σ) R hx hb hr hml hown hts hlocks hZ hA hK σ _ _ _ hf h0 hC (lv_sub hl [] rfl)
    ·
      replace hf := (if_neg c2).symm.trans hf
      refine lv_iload_n hx hb dX9_byteAt_12 rfl (lv_at hl 1 rfl) ?_
      refine lv_aload_n hx hb dX9_byteAt_13 rfl (lv_at hl 0 rfl) ?_
      refine cG_39 hx hb hts i_X9_byteAt_X9 hown hK hC (hts (.fieldLink RX9 15 "StatementRules2$Tokens" "tape" "[I") k_X9_byteAt_fieldLink_RX9_15_SR_Tokens_tape_I) (fun _ q9 => q9) dX9_byteAt_14 ?_
      refine va_alen (v := 900) hx hb hK hC.1 8 0 rfl rfl rfl dX9_byteAt_17 ?_
      refine lv_icmp_ge (tgt := 30) hx hb dX9_byteAt_18 (by decide) (fun c3 => ?_) (fun c3 => ?_)
      ·
        replace hf := (if_pos c3).symm.trans hf
        exact j_X9_byteAt_30 l dC dI Q N (CS.hs σ) R hx hb hr hml hown hts hlocks hZ hA hK σ _ _ _ hf h0 hC (lv_sub hl [] rfl)
      ·
        replace hf := (if_neg c3).symm.trans hf
        refine lv_aload_n hx hb dX9_byteAt_21 rfl (lv_at hl 0 rfl) ?_
        refine cG_39 hx hb hts i_X9_byteAt_X9 hown hK hC (hts (.fieldLink RX9 15 "StatementRules2$Tokens" "tape" "[I") k_X9_byteAt_fieldLink_RX9_15_SR_Tokens_tape_I) (fun _ q9 => q9) dX9_byteAt_22 ?_
        refine lv_iload_n hx hb dX9_byteAt_25 rfl (lv_at hl 1 rfl) ?_
        obtain ⟨b4, hf⟩ := hf_ite hf
        refine cL_0 (v := ((σ.a 0) ((x1 : Int32).toNatClampNeg))) hx hb hK hC b4 dX9_byteAt_26 rfl ?_
        refine lv_goto (tgt := 31) hx hb dX9_byteAt_27 (by decide) ?_
        obtain rfl := Option.some.inj hf
        exact W.iret (v := ((σ.a 0) ((x1 : Int32).toNatClampNeg))) hx hb hr (fun t ht hW => ⟨⟨((σ.a 0) ((x1 : Int32).toNatClampNeg)), (), rfl, rfl, ⟨by rw [ht]; exact hC.1, va_K.moved hW.alike hK, hC.2.1⟩, by rw [ht]; exact hC.2.2.2⟩, hC.2.2.1.F ht⟩) hC.2.2.1.2.2 dX9_byteAt_31
set_option maxHeartbeats 4000000 in
set_option maxRecDepth 100000 in
theorem j_X9_isDigit_16 {p : Program} {e : Env} {s : State} {m : MethodId} {args : Array Value} {below : List Frame} {meth : Method} {c : Code} {A : Nat → Prop} (l : Launch) (dC : Nat → ClassId) (dI : Nat → Nat → Nat) (Q : CQ) (N : Nat) (z9h : Nat) (R : Int32 × CS) (hx : p.tables.exec = Jvm.exec) (hb : c.code = cX9_isDigit) (hr : meth.sig.returnType = (some .boolean)) (hml : c.maxLocals = 1) (hown : s.vm.findClass RX9 = some m.cls) (hts : ∀ w ∈ wzX9_isDigit, w.before args s = true) (hlocks : meth.locks = false) (hZ : zAMB s) (hA : ∀ q : Nat, s.heap.size ≤ q → A q) (hK : va_K (dC, dI) vwCl (cT Q) s) : ∀ (σ : CS) (H : Heap) (locs : List Loc) (ls : Array Slot), f_X9_isDigit_16 N σ = some R → z9h ≤ CS.hs σ → CP dC dI Q A s.heap σ H locs → lv_has ls 1 [] → W p l e ({ frames := 1, cells := CS.hs R.2 - z9h, slots := 17 * (CS.hs R.2 - z9h), locals := 60 * 1 }) s m args below meth c H locs (CS.hs σ - z9h) (17 * (CS.hs σ - z9h)) (MQ below (va_Qi (fun (r : Int32) (_ : Unit) => r = R.1) (fun (_ : Unit) (t : State) => zPost dC dI A (cW Q R.2) (cT Q) t ∧ t.heap.size = CS.hs R.2) A) args s (CS.hs R.2 - z9h) (17 * (CS.hs R.2 - z9h)) A) (F0 m 16 ls []) := by
  intro σ  H locs ls hf h0 hC hl
  unfold f_X9_isDigit_16 at hf
  refine lv_iconst (v := 0) hx hb dX9_isDigit_16 (by decide) ?_
  obtain rfl := Option.some.inj hf
  exact W.zret (v := 0) hx hb hr (rfl) (fun t ht hW => ⟨⟨0, (), rfl, rfl, ⟨by rw [ht]; exact hC.1, va_K.moved hW.alike hK, hC.2.1⟩, by rw [ht]; exact hC.2.2.2⟩, hC.2.2.1.F ht⟩) hC.2.2.1.2.2 dX9_isDigit_17
set_option maxHeartbeats 4000000 in
set_option maxRecDepth 100000 in
theorem c_X9_isDigit (l : Launch) (dC : Nat → ClassId) (dI : Nat → Nat → Nat) (Q : CQ) (N : Nat) (σ : CS) (x0 : Int32) (R : Int32 × CS) (hf : f_X9_isDigit N σ x0 = some R) : Met l yX9_isDigit wzX9_isDigit ({ frames := 1, cells := CS.hs R.2 - CS.hs σ, slots := 17 * (CS.hs R.2 - CS.hs σ), locals := 60 * 1 }) (va_Pc [.int x0] (zPre dC dI (CS.hs σ) (cW Q σ) (cT Q))) (va_Qi (fun (r : Int32) (_ : Unit) => r = R.1) (fun (_ : Unit) (t : State) => zPost dC dI (va_A (cW Q σ) (CS.hs σ)) (cW Q R.2) (cT Q) t ∧ t.heap.size = CS.hs R.2) (va_A (cW Q σ) (CS.hs σ))) (CS.hs R.2 - CS.hs σ) (17 * (CS.hs R.2 - CS.hs σ)) (va_A (cW Q σ) (CS.hs σ)) := by
  refine Met.ofW (cc := cX9_isDigit) (maxL := 1) (ret := (some .boolean)) (by decide) rfl ?_
  intro p e s m args below meth c s₁ B hml hv
  obtain ⟨rfl, hsz, hZ, hP, hK, hD0⟩ := hv
  have hx := B.exec
  have hb := B.bytes
  have hr := B.returns
  have hts := atoms_spec (ws := wzX9_isDigit) B.pre
  have hown : s.vm.findClass RX9 = some m.cls := findClass_of_methodNamed B.named
  have hlocks := B.notSynchronized
  have hD := hD0.self (sz := CS.hs σ)
  generalize hAe : va_A (cW Q σ) (CS.hs σ) = A at hD ⊢
  have hA : ∀ q : Nat, s.heap.size ≤ q → A q := fun q h => by rw [← hAe]; exact Or.inr (hsz ▸ h)
  have hC : CP dC dI Q A s.heap σ s.heap [] := ⟨hP, hD, va_S.rf, hsz⟩
  have h0 : CS.hs σ ≤ CS.hs σ := Nat.le_refl _
  have hl := lv_entry ([.int x0]) (n := 1) (Nat.le_of_ble_eq_true rfl)
  rw [lg_entry_eq]
  generalize (lg_sl ([.int x0]) ++ List.replicate (1 - (lg_sl ([.int x0])).length) Slot.unset).toArray = ls at hl ⊢
  have hl : lv_has ls 1 [(0, .int x0)] := hl
  unfold f_X9_isDigit at hf
  refine W.widen (k := CS.hs σ - CS.hs σ) (n := 17 * (CS.hs σ - CS.hs σ)) (Nat.zero_le _) (Nat.zero_le _) ?_
  refine lv_iload_n hx hb dX9_isDigit_0 rfl (lv_at hl 0 rfl) ?_
  refine lv_bipush (v := 48) hx hb dX9_isDigit_1 (by decide) ?_
  refine lv_icmp_lt (tgt := 16) hx hb dX9_isDigit_3 (by decide) (fun c1 => ?_) (fun c1 => ?_)
  ·
    replace hf := (if_pos c1).symm.trans hf
    exact j_X9_isDigit_16 l dC dI Q N (CS.hs σ) R hx hb hr hml hown hts hlocks hZ hA hK σ _ _ _ hf h0 hC (lv_sub hl [] rfl)
  ·
    replace hf := (if_neg c1).symm.trans hf
    refine lv_iload_n hx hb dX9_isDigit_6 rfl (lv_at hl 0 rfl) ?_
    refine lv_bipush (v := 57) hx hb dX9_isDigit_7 (by decide) ?_
    refine lv_icmp_gt (tgt := 16) hx hb dX9_isDigit_9 (by decide) (fun c2 => ?_) (fun c2 => ?_)
    ·
      replace hf := (if_pos c2).symm.trans hf
      exact j_X9_isDigit_16 l dC dI Q N (CS.hs σ) R hx hb hr hml hown hts hlocks hZ hA hK σ _ _ _ hf h0 hC (lv_sub hl [] rfl)
    ·
      replace hf := (if_neg c2).symm.trans hf
      refine lv_iconst (v := 1) hx hb dX9_isDigit_12 (by decide) ?_
      refine lv_goto (tgt := 17) hx hb dX9_isDigit_13 (by decide) ?_
      obtain rfl := Option.some.inj hf
      exact W.zret (v := 1) hx hb hr (rfl) (fun t ht hW => ⟨⟨1, (), rfl, rfl, ⟨by rw [ht]; exact hC.1, va_K.moved hW.alike hK, hC.2.1⟩, by rw [ht]; exact hC.2.2.2⟩, hC.2.2.1.F ht⟩) hC.2.2.1.2.2 dX9_isDigit_17
end
