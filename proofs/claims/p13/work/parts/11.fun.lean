section
def f_X12_thrown (N : Nat) (σ : RS) : Option (Int32 × RS) :=
  some ((σ.i 0), σ)
def f_X12_in_14 (N : Nat) (σ : RS) : Option (Int32 × RS) :=
  some (0, σ)
def f_X12_in (N : Nat) (σ : RS) (x0 : Int32) (x1 : Int32) (x2 : Int32) : Option (Int32 × RS) :=
  (if x0 < x1 then f_X12_in_14 N σ else (if x2 < x0 then f_X12_in_14 N σ else some (1, σ)))
def b_X12_feed_24 (N : Nat) (K : RS → Int32 → Int32 → Int32 → Int32 → Int32 → Int32 → Option (Int32 × RS)) (σ : RS) (x1 : Int32) (x2 : Int32) (x3 : Int32) (x4 : Int32) (x5 : Int32) (x6 : Int32) : Option (Int32 × RS) :=
  (if 20 ≤ x6 then some (((σ.i 2) + 20), RS.setI σ 2 ((σ.i 2) + 20)) else (if 4 ≤ x6 then (if 8 ≤ x6 then (if 12 ≤ x6 then (if 16 ≤ x6 then if ib ((σ.i 2) + x6) 900 then K (RS.setA σ 1 ((((σ.i 2) + x6) : Int32).toNatClampNeg) ((x5 >>> ((24 - (8 * (x6 - x6 / 4 * 4))) &&& 31)) &&& 255)) x1 x2 x3 x4 x5 (x6 + 1) else none else if ib ((σ.i 2) + x6) 900 then K (RS.setA σ 1 ((((σ.i 2) + x6) : Int32).toNatClampNeg) ((x4 >>> ((24 - (8 * (x6 - x6 / 4 * 4))) &&& 31)) &&& 255)) x1 x2 x3 x4 x5 (x6 + 1) else none) else if ib ((σ.i 2) + x6) 900 then K (RS.setA σ 1 ((((σ.i 2) + x6) : Int32).toNatClampNeg) ((x3 >>> ((24 - (8 * (x6 - x6 / 4 * 4))) &&& 31)) &&& 255)) x1 x2 x3 x4 x5 (x6 + 1) else none) else if ib ((σ.i 2) + x6) 900 then K (RS.setA σ 1 ((((σ.i 2) + x6) : Int32).toNatClampNeg) ((x2 >>> ((24 - (8 * (x6 - x6 / 4 * 4))) &&& 31)) &&& 255)) x1 x2 x3 x4 x5 (x6 + 1) else none) else if ib ((σ.i 2) + x6) 900 then K (RS.setA σ 1 ((((σ.i 2) + x6) : Int32).toNatClampNeg) ((x1 >>> ((24 - (8 * (x6 - x6 / 4 * 4))) &&& 31)) &&& 255)) x1 x2 x3 x4 x5 (x6 + 1) else none))
def f_X12_feed_24 (N : Nat) : Nat → RS → Int32 → Int32 → Int32 → Int32 → Int32 → Int32 → Option (Int32 × RS)
  | 0 => fun _ _ _ _ _ _ _ => none
  | n+1 => b_X12_feed_24 N (f_X12_feed_24 N n)
def f_X12_feed (N : Nat) (σ : RS) (x1 : Int32) (x2 : Int32) (x3 : Int32) (x4 : Int32) (x5 : Int32) : Option (Int32 × RS) :=
  (if ((σ.i 2) + 20) ≤ 900 then f_X12_feed_24 N N (RS.setI σ 0 0) x1 x2 x3 x4 x5 0 else some ((-2), RS.setI σ 0 0))
def f_X12_cut (N : Nat) (σ : RS) (x1 : Int32) : Option (Int32 × RS) :=
  (f_X12_in N (RS.setI σ 0 0) x1 0 (σ.i 2)).bind fun p1 => (if p1.1 = 0 then some ((-1), p1.2) else some (((p1.2.i 2) - x1), RS.setI p1.2 2 x1))
def f_X12_kind (N : Nat) (σ : RS) (x1 : Int32) : Option (Int32 × RS) :=
  (f_X12_in N (RS.setI σ 0 0) x1 0 ((σ.i 3) - 1)).bind fun p1 => (if p1.1 = 0 then some ((-1), p1.2) else (if (p1.2.i 3) = 12 then some ((-2), p1.2) else if ib (p1.2.i 3) 12 then some ((((p1.2.i 3) + 1) - 1), RS.setI (RS.setA p1.2 4 (((p1.2.i 3) : Int32).toNatClampNeg) x1) 3 ((p1.2.i 3) + 1)) else none))
def f_X12_isUnder_21 (N : Nat) (σ : RS) (x2 : Int32) (x3 : Int32) : Option (Int32 × RS) :=
  (if x3 = x2 then some (1, σ) else some (0, σ))
def b_X12_isUnder_2 (N : Nat) (K : RS → Int32 → Int32 → Option (Int32 × RS)) (σ : RS) (x2 : Int32) (x3 : Int32) : Option (Int32 × RS) :=
  (if x3 = x2 then f_X12_isUnder_21 N σ x2 x3 else (if x3 ≤ 0 then f_X12_isUnder_21 N σ x2 x3 else if ib x3 12 then K σ x2 (σ.a 4 ((x3 : Int32).toNatClampNeg)) else none))
def f_X12_isUnder_2 (N : Nat) : Nat → RS → Int32 → Int32 → Option (Int32 × RS)
  | 0 => fun _ _ _ => none
  | n+1 => b_X12_isUnder_2 N (f_X12_isUnder_2 N n)
def f_X12_isUnder (N : Nat) (σ : RS) (x1 : Int32) (x2 : Int32) : Option (Int32 × RS) :=
  f_X12_isUnder_2 N N σ x2 x1
def f_X12_under_33 (N : Nat) (σ : RS) : Option (Int32 × RS) :=
  some ((-1), σ)
def f_X12_under (N : Nat) (σ : RS) (x1 : Int32) (x2 : Int32) : Option (Int32 × RS) :=
  (f_X12_in N (RS.setI σ 0 0) x1 0 ((σ.i 3) - 1)).bind fun p1 => (if p1.1 = 0 then f_X12_under_33 N p1.2 else (f_X12_in N p1.2 x2 0 ((p1.2.i 3) - 1)).bind fun p4 => (if p4.1 = 0 then f_X12_under_33 N p4.2 else (f_X12_isUnder N p4.2 x1 x2).bind fun p7 => (if p7.1 = 0 then some (0, p7.2) else some (1, p7.2))))
def f_X12_resource_53 (N : Nat) (σ : RS) : Option (Int32 × RS) :=
  some ((-1), σ)
def f_X12_resource_71 (N : Nat) (σ : RS) (x1 : Int32) (x3 : Int32) (x4 : Int32) : Option (Int32 × RS) :=
  if ib x1 8 then some (1, RS.setA (RS.setA σ 6 ((x1 : Int32).toNatClampNeg) (x3 + 1)) 7 ((x1 : Int32).toNatClampNeg) (x4 + 1)) else none
def f_X12_resource (N : Nat) (σ : RS) (x1 : Int32) (x2 : Int32) (x3 : Int32) (x4 : Int32) : Option (Int32 × RS) :=
  (f_X12_in N (RS.setI σ 0 0) x1 0 7).bind fun p1 => (if p1.1 = 0 then f_X12_resource_53 N p1.2 else (f_X12_in N p1.2 x2 0 1).bind fun p4 => (if p4.1 = 0 then f_X12_resource_53 N p4.2 else (f_X12_in N p4.2 x3 (-1) ((p4.2.i 3) - 1)).bind fun p7 => (if p7.1 = 0 then f_X12_resource_53 N p7.2 else (f_X12_in N p7.2 x4 (-1) ((p7.2.i 3) - 1)).bind fun p10 => (if p10.1 = 0 then f_X12_resource_53 N p10.2 else (if x2 = 1 then if ib x1 8 then f_X12_resource_71 N (RS.setA p10.2 5 ((x1 : Int32).toNatClampNeg) 1) x1 x3 x4 else none else if ib x1 8 then f_X12_resource_71 N (RS.setA p10.2 5 ((x1 : Int32).toNatClampNeg) 0) x1 x3 x4 else none)))))
def f_X12_asserts_18 (N : Nat) (σ : RS) (x1 : Int32) (x2 : Int32) : Option (Int32 × RS) :=
  if x1 = 0 ∨ x1 = 1 then some (x2, RS.setI σ 8 x1) else none
def f_X12_asserts (N : Nat) (σ : RS) (x1 : Int32) : Option (Int32 × RS) :=
  (if (σ.i 8) = 0 then f_X12_asserts_18 N (RS.setI σ 0 0) x1 0 else f_X12_asserts_18 N (RS.setI σ 0 0) x1 1)
def f_X12_at (N : Nat) (σ : RS) (x1 : Int32) : Option (Int32 × RS) :=
  (if (σ.i 2) ≤ x1 then some (0, σ) else if ib x1 900 then some ((σ.a 1 ((x1 : Int32).toNatClampNeg)), σ) else none)
def f_X12_isLetter_16 (N : Nat) (σ : RS) : Option (Int32 × RS) :=
  some (0, σ)
def f_X12_isLetter (N : Nat) (σ : RS) (x0 : Int32) : Option (Int32 × RS) :=
  (if x0 < 97 then f_X12_isLetter_16 N σ else (if 122 < x0 then f_X12_isLetter_16 N σ else some (1, σ)))
def f_X12_isDigit_16 (N : Nat) (σ : RS) : Option (Int32 × RS) :=
  some (0, σ)
def f_X12_isDigit (N : Nat) (σ : RS) (x0 : Int32) : Option (Int32 × RS) :=
  (if x0 < 48 then f_X12_isDigit_16 N σ else (if 57 < x0 then f_X12_isDigit_16 N σ else some (1, σ)))
def b_X12_readName_260 (N : Nat) (K : RS → Int32 → Option (RS)) (σ : RS) (x4 : Int32) : Option (RS) :=
  (if 25 ≤ x4 then some σ else if ib x4 25 then (if (lg_cmp (σ.b 9 ((x4 : Int32).toNatClampNeg)) σ.l) = 0 then K (RS.setI σ 10 (410 + x4)) (x4 + 1) else K (RS.setI σ 10 (σ.i 10)) (x4 + 1)) else none)
def f_X12_readName_260 (N : Nat) : Nat → RS → Int32 → Option (RS)
  | 0 => fun _ _ => none
  | n+1 => b_X12_readName_260 N (f_X12_readName_260 N n)
def f_X12_readName_257 (N : Nat) (σ : RS) : Option (RS) :=
  f_X12_readName_260 N N σ 0
def f_X12_readName_254 (N : Nat) (σ : RS) : Option (RS) :=
  some σ
def f_X12_readName_220 (N : Nat) (σ : RS) (x1 : Int32) (x3 : Int32) : Option (RS) :=
  (if x1 = 2 then f_X12_readName_254 N (RS.setI (RS.setI σ 10 5) 14 x3) else (f_X12_at N (RS.setI σ 10 5) ((σ.i 11) + 2)).bind fun p32 => f_X12_readName_254 N (RS.setI p32.2 14 ((10 + p32.1) - 48)))
def f_X12_readName_189 (N : Nat) (σ : RS) (x1 : Int32) (x3 : Int32) : Option (RS) :=
  (if x1 = 3 then (if x3 = 1 then (f_X12_at N σ ((σ.i 11) + 2)).bind fun p26 => (f_X12_in N p26.2 (p26.1 - 48) 0 1).bind fun p28 => (if p28.1 = 0 then f_X12_readName_257 N p28.2 else f_X12_readName_220 N p28.2 x1 x3) else f_X12_readName_257 N σ) else f_X12_readName_257 N σ)
def f_X12_readName_168 (N : Nat) (σ : RS) (x1 : Int32) (x2 : Int32) (x3 : Int32) : Option (RS) :=
  (if x2 = 101 then (if x1 = 2 then (f_X12_in N σ x3 0 9).bind fun p34 => (if p34.1 = 0 then f_X12_readName_189 N p34.2 x1 x3 else f_X12_readName_220 N p34.2 x1 x3) else f_X12_readName_189 N σ x1 x3) else f_X12_readName_257 N σ)
def f_X12_readName_160 (N : Nat) (σ : RS) (x3 : Int32) : Option (RS) :=
  some (RS.setI σ 14 x3)
def f_X12_readName_135 (N : Nat) (σ : RS) (x1 : Int32) (x2 : Int32) (x3 : Int32) : Option (RS) :=
  (f_X12_in N σ x3 0 7).bind fun p38 => (if p38.1 = 0 then f_X12_readName_168 N p38.2 x1 x2 x3 else (if x2 = 109 then f_X12_readName_160 N (RS.setI p38.2 10 3) x3 else f_X12_readName_160 N (RS.setI p38.2 10 4) x3))
def b_X12_readName_5 (N : Nat) (K : RS → Option (RS)) (σ : RS) : Option (RS) :=
  (f_X12_at N σ (σ.i 12)).bind fun p1 => (f_X12_isLetter N p1.2 p1.1).bind fun p3 => (if p3.1 = 0 then (f_X12_at N p3.2 (p3.2.i 12)).bind fun p8 => (f_X12_isDigit N p8.2 p8.1).bind fun p10 => (if p10.1 = 0 then (if ((p10.2.i 12) - (p10.2.i 11)) ≤ 8 then (f_X12_at N p10.2 (p10.2.i 11)).bind fun p14 => (f_X12_at N p14.2 ((p14.2.i 11) + 1)).bind fun p16 => (if ((p10.2.i 12) - (p10.2.i 11)) = 2 then (if p14.1 = 109 then f_X12_readName_135 N (RS.setI p16.2 10 2) ((p10.2.i 12) - (p10.2.i 11)) p14.1 (p16.1 - 48) else (if p14.1 = 114 then f_X12_readName_135 N (RS.setI p16.2 10 2) ((p10.2.i 12) - (p10.2.i 11)) p14.1 (p16.1 - 48) else f_X12_readName_168 N (RS.setI p16.2 10 2) ((p10.2.i 12) - (p10.2.i 11)) p14.1 (p16.1 - 48))) else f_X12_readName_168 N (RS.setI p16.2 10 2) ((p10.2.i 12) - (p10.2.i 11)) p14.1 (p16.1 - 48)) else some (RS.setI p10.2 10 6)) else (f_X12_at N p10.2 (p10.2.i 12)).bind fun p43 => K (RS.setI (RS.setL p43.2 ((p10.2.l <<< ((8 : Int32).toInt64 &&& 63)) ||| (p43.1 : Int32).toInt64)) 12 ((p43.2.i 12) + 1))) else (f_X12_at N p3.2 (p3.2.i 12)).bind fun p6 => K (RS.setI (RS.setL p6.2 ((p3.2.l <<< ((8 : Int32).toInt64 &&& 63)) ||| (p6.1 : Int32).toInt64)) 12 ((p6.2.i 12) + 1)))
def f_X12_readName_5 (N : Nat) : Nat → RS → Option (RS)
  | 0 => fun _ => none
  | n+1 => b_X12_readName_5 N (f_X12_readName_5 N n)
def f_X12_readName (N : Nat) (σ : RS) : Option (RS) :=
  f_X12_readName_5 N N (RS.setL σ 0)
def f_X12_readSign_306 (N : Nat) (σ : RS) (x1 : Int32) (x4 : Int32) : Option (RS) :=
  (if x4 = 0 then some (RS.setI σ 10 6) else some (RS.setI σ 10 x1))
def f_X12_readSign_299 (N : Nat) (σ : RS) (x1 : Int32) : Option (RS) :=
  f_X12_readSign_306 N σ x1 1
def f_X12_readSign_165 (N : Nat) (σ : RS) (x1 : Int32) (x3 : Int32) : Option (RS) :=
  (if x3 ≤ 0 then (if x1 = 123 then f_X12_readSign_299 N σ x1 else (if x1 = 125 then f_X12_readSign_299 N σ x1 else (if x1 = 40 then f_X12_readSign_299 N σ x1 else (if x1 = 41 then f_X12_readSign_299 N σ x1 else (if x1 = 91 then f_X12_readSign_299 N σ x1 else (if x1 = 93 then f_X12_readSign_299 N σ x1 else (if x1 = 59 then f_X12_readSign_299 N σ x1 else (if x1 = 58 then f_X12_readSign_299 N σ x1 else (if x1 = 44 then f_X12_readSign_299 N σ x1 else (if x1 = 61 then f_X12_readSign_299 N σ x1 else (if x1 = 43 then f_X12_readSign_299 N σ x1 else (if x1 = 45 then f_X12_readSign_299 N σ x1 else (if x1 = 42 then f_X12_readSign_299 N σ x1 else (if x1 = 47 then f_X12_readSign_299 N σ x1 else (if x1 = 37 then f_X12_readSign_299 N σ x1 else (if x1 = 60 then f_X12_readSign_299 N σ x1 else (if x1 = 62 then f_X12_readSign_299 N σ x1 else (if x1 = 33 then f_X12_readSign_299 N σ x1 else (if x1 = 124 then f_X12_readSign_299 N σ x1 else f_X12_readSign_306 N σ x1 0))))))))))))))))))) else some (RS.setI (RS.setI σ 12 ((σ.i 12) + 1)) 10 x3))
def f_X12_readSign_163 (N : Nat) (σ : RS) (x1 : Int32) : Option (RS) :=
  f_X12_readSign_165 N σ x1 0
def f_X12_readSign_145 (N : Nat) (σ : RS) (x1 : Int32) (x2 : Int32) : Option (RS) :=
  (if x1 = 43 then (if x2 = 43 then f_X12_readSign_165 N σ x1 307 else f_X12_readSign_163 N σ x1) else f_X12_readSign_163 N σ x1)
def f_X12_readSign_127 (N : Nat) (σ : RS) (x1 : Int32) (x2 : Int32) : Option (RS) :=
  (if x1 = 45 then (if x2 = 62 then f_X12_readSign_165 N σ x1 306 else f_X12_readSign_145 N σ x1 x2) else f_X12_readSign_145 N σ x1 x2)
def f_X12_readSign_109 (N : Nat) (σ : RS) (x1 : Int32) (x2 : Int32) : Option (RS) :=
  (if x1 = 124 then (if x2 = 124 then f_X12_readSign_165 N σ x1 305 else f_X12_readSign_127 N σ x1 x2) else f_X12_readSign_127 N σ x1 x2)
def f_X12_readSign_91 (N : Nat) (σ : RS) (x1 : Int32) (x2 : Int32) : Option (RS) :=
  (if x1 = 38 then (if x2 = 38 then f_X12_readSign_165 N σ x1 304 else f_X12_readSign_109 N σ x1 x2) else f_X12_readSign_109 N σ x1 x2)
def f_X12_readSign_73 (N : Nat) (σ : RS) (x1 : Int32) (x2 : Int32) : Option (RS) :=
  (if x1 = 33 then (if x2 = 61 then f_X12_readSign_165 N σ x1 303 else f_X12_readSign_91 N σ x1 x2) else f_X12_readSign_91 N σ x1 x2)
def f_X12_readSign_55 (N : Nat) (σ : RS) (x1 : Int32) (x2 : Int32) : Option (RS) :=
  (if x1 = 61 then (if x2 = 61 then f_X12_readSign_165 N σ x1 302 else f_X12_readSign_73 N σ x1 x2) else f_X12_readSign_73 N σ x1 x2)
def f_X12_readSign_37 (N : Nat) (σ : RS) (x1 : Int32) (x2 : Int32) : Option (RS) :=
  (if x1 = 62 then (if x2 = 61 then f_X12_readSign_165 N σ x1 301 else f_X12_readSign_55 N σ x1 x2) else f_X12_readSign_55 N σ x1 x2)
def f_X12_readSign (N : Nat) (σ : RS) (x1 : Int32) : Option (RS) :=
  (f_X12_at N (RS.setI σ 12 ((σ.i 12) + 1)) ((σ.i 12) + 1)).bind fun p1 => (if x1 = 60 then (if p1.1 = 61 then f_X12_readSign_165 N p1.2 x1 300 else f_X12_readSign_37 N p1.2 x1 p1.1) else f_X12_readSign_37 N p1.2 x1 p1.1)
def f_X12_next_211 (N : Nat) (σ : RS) : Option (RS) :=
  some σ
def b_X12_next_116 (N : Nat) (K : RS → Option (RS)) (σ : RS) : Option (RS) :=
  (f_X12_at N σ (σ.i 12)).bind fun p16 => (f_X12_isDigit N p16.2 p16.1).bind fun p18 => (if p18.1 = 0 then (if ((p18.2.i 12) - (p18.2.i 11)) ≤ 9 then f_X12_next_211 N (RS.setI p18.2 10 1) else f_X12_next_211 N (RS.setI p18.2 10 6)) else (if 9 ≤ ((p18.2.i 12) - (p18.2.i 11)) then K (RS.setI (RS.setI p18.2 14 (p18.2.i 14)) 12 ((p18.2.i 12) + 1)) else (f_X12_at N p18.2 (p18.2.i 12)).bind fun p23 => K (RS.setI (RS.setI p23.2 14 (((10 * (p18.2.i 14)) + p23.1) - 48)) 12 ((p23.2.i 12) + 1))))
def f_X12_next_116 (N : Nat) : Nat → RS → Option (RS)
  | 0 => fun _ => none
  | n+1 => b_X12_next_116 N (f_X12_next_116 N n)
def f_X12_next_68 (N : Nat) (σ : RS) : Option (RS) :=
  (f_X12_at N (RS.setI σ 11 (σ.i 12)) (σ.i 12)).bind fun p3 => (if (p3.2.i 11) = (p3.2.i 2) then some (RS.setI p3.2 10 0) else (f_X12_isDigit N p3.2 p3.1).bind fun p6 => (if p6.1 = 0 then (f_X12_isLetter N p6.2 p3.1).bind fun p9 => (if p9.1 = 0 then (f_X12_readSign N p9.2 p3.1).bind fun p12 => some p12 else (f_X12_readName N p9.2).bind fun p14 => some p14) else f_X12_next_116 N N (RS.setI p6.2 14 0)))
def b_X12_next_18 (N : Nat) (K : RS → Option (RS)) (σ : RS) : Option (RS) :=
  (if (σ.i 2) ≤ (σ.i 12) then f_X12_next_68 N σ else (f_X12_at N σ (σ.i 12)).bind fun p25 => (if p25.1 = 32 then K (RS.setI p25.2 12 ((p25.2.i 12) + 1)) else (f_X12_at N p25.2 (p25.2.i 12)).bind fun p28 => (if p28.1 = 10 then K (RS.setI p28.2 12 ((p28.2.i 12) + 1)) else f_X12_next_68 N p28.2)))
def f_X12_next_18 (N : Nat) : Nat → RS → Option (RS)
  | 0 => fun _ => none
  | n+1 => b_X12_next_18 N (f_X12_next_18 N n)
def f_X12_next (N : Nat) (σ : RS) : Option (RS) :=
  (if (σ.i 15) = 0 then f_X12_next_18 N N (RS.setI σ 17 ((σ.i 17) + 1)) else some σ)
def f_X12_fail (N : Nat) (σ : RS) (x1 : Int32) (x2 : Int32) : Option (RS) :=
  (if (σ.i 15) = 0 then some (RS.setI (RS.setI σ 15 x1) 16 x2) else some σ)
def f_X12_note (N : Nat) (σ : RS) (x1 : Int32) : Option (RS) :=
  (if (σ.i 15) = 0 then (if 0 ≤ (σ.i 18) then some σ else some (RS.setI σ 18 x1)) else some σ)
def f_X12_can_42 (N : Nat) (σ : RS) : Option (Int32 × RS) :=
  (if (σ.i 15) = 0 then some (1, σ) else some (0, σ))
def f_X12_can_20 (N : Nat) (σ : RS) : Option (Int32 × RS) :=
  (if (σ.i 10) = 6 then (f_X12_fail N σ 1 (σ.i 11)).bind fun p7 => f_X12_can_42 N p7 else (f_X12_fail N σ 2 (σ.i 11)).bind fun p5 => f_X12_can_42 N p5)
def f_X12_can (N : Nat) (σ : RS) (x1 : Int32) : Option (Int32 × RS) :=
  (if (σ.i 15) = 0 then (if x1 = 0 then f_X12_can_20 N σ else (if (σ.i 10) = 6 then f_X12_can_20 N σ else f_X12_can_42 N σ)) else f_X12_can_42 N σ)
def f_X12_need_31 (N : Nat) (σ : RS) : Option (Int32 × RS) :=
  (if (σ.i 15) = 0 then some (1, σ) else some (0, σ))
def f_X12_need_27 (N : Nat) (σ : RS) : Option (Int32 × RS) :=
  (f_X12_next N σ).bind fun p7 => f_X12_need_31 N p7
def f_X12_need (N : Nat) (σ : RS) (x1 : Int32) : Option (Int32 × RS) :=
  (if (σ.i 15) = 0 then (if (σ.i 10) = x1 then (f_X12_can N σ 1).bind fun p9 => (if p9.1 = 0 then f_X12_need_31 N p9.2 else f_X12_need_27 N p9.2) else (f_X12_can N σ 0).bind fun p4 => (if p4.1 = 0 then f_X12_need_31 N p4.2 else f_X12_need_27 N p4.2)) else f_X12_need_31 N σ)
def f_X12_opens_29 (N : Nat) (σ : RS) : Option (Int32 × RS) :=
  (if (σ.i 15) = 0 then some (1, σ) else some (0, σ))
def f_X12_opens (N : Nat) (σ : RS) : Option (Int32 × RS) :=
  (if ((σ.i 19) + 1) ≤ 20 then f_X12_opens_29 N (RS.setI σ 19 ((σ.i 19) + 1)) else (f_X12_fail N (RS.setI σ 19 ((σ.i 19) + 1)) 6 (σ.i 11)).bind fun p3 => f_X12_opens_29 N p3)
def f_X12_open_38 (N : Nat) (σ : RS) : Option (Int32 × RS) :=
  (if (σ.i 15) = 0 then some (1, σ) else some (0, σ))
def f_X12_open_27 (N : Nat) (σ : RS) : Option (Int32 × RS) :=
  (f_X12_opens N σ).bind fun p7 => (if p7.1 = 0 then f_X12_open_38 N p7.2 else (f_X12_next N p7.2).bind fun p10 => f_X12_open_38 N p10)
def f_X12_open (N : Nat) (σ : RS) (x1 : Int32) : Option (Int32 × RS) :=
  (if (σ.i 15) = 0 then (if (σ.i 10) = x1 then (f_X12_can N σ 1).bind fun p12 => (if p12.1 = 0 then f_X12_open_38 N p12.2 else f_X12_open_27 N p12.2) else (f_X12_can N σ 0).bind fun p4 => (if p4.1 = 0 then f_X12_open_38 N p4.2 else f_X12_open_27 N p4.2)) else f_X12_open_38 N σ)
def f_X12_shut_18 (N : Nat) (σ : RS) : Option (Int32 × RS) :=
  (if (σ.i 15) = 0 then some (1, σ) else some (0, σ))
def f_X12_shut (N : Nat) (σ : RS) (x1 : Int32) : Option (Int32 × RS) :=
  (f_X12_need N σ x1).bind fun p1 => (if p1.1 = 0 then f_X12_shut_18 N p1.2 else f_X12_shut_18 N (RS.setI p1.2 19 ((p1.2.i 19) - 1)))
def f_X12_emit_21 (N : Nat) (σ : RS) (x1 : Int32) (x2 : Int32) (x3 : Int32) : Option (Int32 × RS) :=
  if ib x3 3000 then some (x3, RS.setI (RS.setA (RS.setA (RS.setA σ 21 ((x3 : Int32).toNatClampNeg) x1) 22 ((x3 : Int32).toNatClampNeg) x2) 23 ((x3 : Int32).toNatClampNeg) 0) 20 (x3 + 1)) else none
def f_X12_emit (N : Nat) (σ : RS) (x1 : Int32) (x2 : Int32) : Option (Int32 × RS) :=
  (if 3000 ≤ (σ.i 20) then f_X12_emit_21 N σ x1 x2 2999 else f_X12_emit_21 N σ x1 x2 (σ.i 20))
def b_X12_seenAs_7 (N : Nat) (K : RS → Int64 → Int32 → Option (Int32 × RS)) (σ : RS) (x1 : Int64) (x3 : Int32) : Option (Int32 × RS) :=
  (if x3 < 0 then some ((-1), σ) else if ib x3 460 then (if (lg_cmp (σ.b 39 ((x3 : Int32).toNatClampNeg)) x1) = 0 then some (x3, σ) else K σ x1 (x3 + (-1))) else none)
def f_X12_seenAs_7 (N : Nat) : Nat → RS → Int64 → Int32 → Option (Int32 × RS)
  | 0 => fun _ _ _ => none
  | n+1 => b_X12_seenAs_7 N (f_X12_seenAs_7 N n)
def f_X12_seenAs (N : Nat) (σ : RS) (x1 : Int64) : Option (Int32 × RS) :=
  f_X12_seenAs_7 N N σ x1 ((σ.i 38) - 1)
def f_X12_see (N : Nat) (σ : RS) (x1 : Int64) (x3 : Int32) : Option (Int32 × RS) :=
  if ib (σ.i 38) 460 then some ((((σ.i 42) + 1) - 1), RS.setI (RS.setI (RS.setA (RS.setA (RS.setB σ 39 (((σ.i 38) : Int32).toNatClampNeg) x1) 40 (((σ.i 38) : Int32).toNatClampNeg) (σ.i 42)) 41 (((σ.i 38) : Int32).toNatClampNeg) (vp_nar .boolean x3)) 38 ((σ.i 38) + 1)) 42 ((σ.i 42) + 1)) else none
def f_X12_goal (N : Nat) (σ : RS) (x1 : Int32) (x2 : Int64) : Option (Int32 × RS) :=
  if ib (σ.i 43) 460 then some ((((σ.i 43) + 1) - 1), RS.setI (RS.setA (RS.setA (RS.setA (RS.setA (RS.setA (RS.setA (RS.setB (RS.setA σ 44 (((σ.i 43) : Int32).toNatClampNeg) x1) 45 (((σ.i 43) : Int32).toNatClampNeg) x2) 46 (((σ.i 43) : Int32).toNatClampNeg) (-1)) 47 (((σ.i 43) : Int32).toNatClampNeg) (σ.i 52)) 48 (((σ.i 43) : Int32).toNatClampNeg) (-1)) 49 (((σ.i 43) : Int32).toNatClampNeg) (-1)) 50 (((σ.i 43) : Int32).toNatClampNeg) 0) 51 (((σ.i 43) : Int32).toNatClampNeg) 0) 43 ((σ.i 43) + 1)) else none
def f_X12_loopGoal_49 (N : Nat) (σ : RS) (x1 : Int32) : Option (Int32 × RS) :=
  some (x1, σ)
def b_X12_loopGoal_11 (N : Nat) (K : RS → Int32 → Int32 → Option (Int32 × RS)) (σ : RS) (x1 : Int32) (x2 : Int32) : Option (Int32 × RS) :=
  (if x2 < 0 then f_X12_loopGoal_49 N σ x1 else if ib x2 460 then (if (σ.a 44 ((x2 : Int32).toNatClampNeg)) = 2 then (if (σ.a 46 ((x2 : Int32).toNatClampNeg)) = (-3) then K (RS.setA σ 46 ((x2 : Int32).toNatClampNeg) x1) x1 (x2 + (-1)) else f_X12_loopGoal_49 N σ x1) else f_X12_loopGoal_49 N σ x1) else none)
def f_X12_loopGoal_11 (N : Nat) : Nat → RS → Int32 → Int32 → Option (Int32 × RS)
  | 0 => fun _ _ _ => none
  | n+1 => b_X12_loopGoal_11 N (f_X12_loopGoal_11 N n)
def f_X12_loopGoal (N : Nat) (σ : RS) : Option (Int32 × RS) :=
  (f_X12_goal N σ 0 0).bind fun p1 => f_X12_loopGoal_11 N N p1.2 p1.1 (p1.1 - 1)
def b_X12_patch_2 (N : Nat) (K : RS → Int32 → Int32 → Option (RS)) (σ : RS) (x2 : Int32) (x3 : Int32) : Option (RS) :=
  (if x3 < 0 then some σ else if ib x3 3000 then K (RS.setA σ 22 ((x3 : Int32).toNatClampNeg) x2) x2 (σ.a 22 ((x3 : Int32).toNatClampNeg)) else none)
def f_X12_patch_2 (N : Nat) : Nat → RS → Int32 → Int32 → Option (RS)
  | 0 => fun _ _ _ => none
  | n+1 => b_X12_patch_2 N (f_X12_patch_2 N n)
def f_X12_patch (N : Nat) (σ : RS) (x1 : Int32) (x2 : Int32) : Option (RS) :=
  f_X12_patch_2 N N σ x2 x1
def f_X12_goes (N : Nat) (σ : RS) (x1 : Int32) (x2 : Int32) : Option (RS) :=
  (if x2 = 0 then if ib x1 460 then some (RS.setA σ 51 ((x1 : Int32).toNatClampNeg) 1) else none else if ib x1 460 then some (RS.setA σ 50 ((x1 : Int32).toNatClampNeg) 1) else none)
def f_X12_pend_22 (N : Nat) (σ : RS) (x1 : Int32) (x2 : Int32) : Option (RS) :=
  (f_X12_goes N σ x1 x2).bind fun p2 => some p2
def f_X12_pend (N : Nat) (σ : RS) (x1 : Int32) (x2 : Int32) : Option (RS) :=
  (if (σ.i 56) = 0 then f_X12_pend_22 N σ x1 x2 else if ib ((σ.i 56) - 1) 40 then (if x1 < (σ.a 58 ((((σ.i 56) - 1) : Int32).toNatClampNeg)) then if ib (σ.i 59) 300 then some (RS.setI (RS.setA (RS.setA (RS.setA σ 60 (((σ.i 59) : Int32).toNatClampNeg) x1) 61 (((σ.i 59) : Int32).toNatClampNeg) (vp_nar .boolean x2)) 62 (((σ.i 59) : Int32).toNatClampNeg) (σ.a 57 ((((σ.i 56) - 1) : Int32).toNatClampNeg))) 59 ((σ.i 59) + 1)) else none else f_X12_pend_22 N σ x1 x2) else none)
def b_X12_resolve_2 (N : Nat) (K : RS → Int32 → Int32 → Int32 → Option (RS)) (σ : RS) (x1 : Int32) (x2 : Int32) (x3 : Int32) : Option (RS) :=
  (if (σ.i 59) ≤ x3 then some σ else if ib x3 300 then (if (σ.a 62 ((x3 : Int32).toNatClampNeg)) = x1 then (if x2 = 0 then K (RS.setA σ 62 ((x3 : Int32).toNatClampNeg) (-1)) x1 x2 (x3 + 1) else (if (σ.i 56) ≤ 0 then (f_X12_goes N (RS.setA σ 62 ((x3 : Int32).toNatClampNeg) (-1)) (σ.a 60 ((x3 : Int32).toNatClampNeg)) (σ.a 61 ((x3 : Int32).toNatClampNeg))).bind fun p8 => K p8 x1 x2 (x3 + 1) else if ib ((σ.i 56) - 1) 40 then (if (σ.a 58 ((((σ.i 56) - 1) : Int32).toNatClampNeg)) ≤ (σ.a 60 ((x3 : Int32).toNatClampNeg)) then (f_X12_goes N (RS.setA σ 62 ((x3 : Int32).toNatClampNeg) (-1)) (σ.a 60 ((x3 : Int32).toNatClampNeg)) (σ.a 61 ((x3 : Int32).toNatClampNeg))).bind fun p13 => K p13 x1 x2 (x3 + 1) else K (RS.setA σ 62 ((x3 : Int32).toNatClampNeg) (σ.a 57 ((((σ.i 56) - 1) : Int32).toNatClampNeg))) x1 x2 (x3 + 1)) else none)) else K σ x1 x2 (x3 + 1)) else none)
def f_X12_resolve_2 (N : Nat) : Nat → RS → Int32 → Int32 → Int32 → Option (RS)
  | 0 => fun _ _ _ _ => none
  | n+1 => b_X12_resolve_2 N (f_X12_resolve_2 N n)
def f_X12_resolve (N : Nat) (σ : RS) (x1 : Int32) (x2 : Int32) : Option (RS) :=
  f_X12_resolve_2 N N σ x1 x2 0
def f_X12_push (N : Nat) (σ : RS) (x1 : Int32) : Option (RS) :=
  if ib ((σ.i 63) + 1) 1000 then some (RS.setA (RS.setA (RS.setI σ 63 ((σ.i 63) + 1)) 64 ((((σ.i 63) + 1) : Int32).toNatClampNeg) x1) 65 ((((σ.i 63) + 1) : Int32).toNatClampNeg) 0) else none
def f_X12_then (N : Nat) (σ : RS) (x1 : Int32) (x2 : Int32) : Option (RS) :=
  if ib (σ.i 63) 1000 then (f_X12_push N (RS.setA σ 65 (((σ.i 63) : Int32).toNatClampNeg) x1) x2).bind fun p2 => some p2 else none
def f_X12_body_32 (N : Nat) (σ : RS) (x1 : Int32) : Option (RS) :=
  (f_X12_then N σ x1 2).bind fun p5 => some p5
def f_X12_body (N : Nat) (σ : RS) (x1 : Int32) : Option (RS) :=
  (if (σ.i 10) = 410 then (f_X12_can N σ 0).bind fun p2 => (if p2.1 = 0 then some p2.2 else f_X12_body_32 N p2.2 x1) else (if (σ.i 10) = 411 then (f_X12_can N σ 0).bind fun p8 => (if p8.1 = 0 then some p8.2 else f_X12_body_32 N p8.2 x1) else (f_X12_can N σ 1).bind fun p11 => (if p11.1 = 0 then some p11.2 else f_X12_body_32 N p11.2 x1)))
def f_X12_over (N : Nat) (σ : RS) (x1 : Int32) : Option (RS) :=
  if x1 = 0 ∨ x1 = 1 then some (RS.setI (RS.setI σ 75 x1) 63 ((σ.i 63) - 1)) else none
def f_X12_list_73 (N : Nat) (σ : RS) (x1 : Int32) : Option (RS) :=
  if ib x1 1000 then (if (σ.a 66 ((x1 : Int32).toNatClampNeg)) = 1 then (f_X12_over N σ 1).bind fun p9 => some p9 else (f_X12_over N σ 0).bind fun p7 => some p7) else none
def f_X12_list_110 (N : Nat) (σ : RS) : Option (RS) :=
  (f_X12_then N σ 1 2).bind fun p16 => some p16
def f_X12_list_37 (N : Nat) (σ : RS) (x1 : Int32) : Option (RS) :=
  (if (σ.i 10) = 125 then f_X12_list_73 N σ x1 else (if (σ.i 10) = 429 then f_X12_list_73 N σ x1 else (if (σ.i 10) = 430 then f_X12_list_73 N σ x1 else (if (σ.i 10) = 0 then f_X12_list_73 N σ x1 else if ib x1 1000 then (if (σ.a 66 ((x1 : Int32).toNatClampNeg)) = 0 then (f_X12_note N σ (σ.i 11)).bind fun p18 => f_X12_list_110 N p18 else f_X12_list_110 N σ) else none))))
def f_X12_list (N : Nat) (σ : RS) (x1 : Int32) : Option (RS) :=
  if ib x1 1000 then (if (σ.a 65 ((x1 : Int32).toNatClampNeg)) = 0 then f_X12_list_37 N (RS.setA σ 66 ((x1 : Int32).toNatClampNeg) 1) x1 else (if (σ.i 75) = 0 then f_X12_list_37 N (RS.setA σ 66 ((x1 : Int32).toNatClampNeg) 0) x1 else f_X12_list_37 N (RS.setA σ 66 ((x1 : Int32).toNatClampNeg) 1) x1)) else none
def f_X12_jump_317 (N : Nat) (σ : RS) : Option (RS) :=
  (f_X12_need N σ 59).bind fun p18 => some p18.2
def f_X12_jump_302 (N : Nat) (σ : RS) (x1 : Int32) (x3 : Int32) (x4 : Int32) : Option (RS) :=
  (f_X12_pend N σ x4 x1).bind fun p15 => (if x3 = 0 then f_X12_jump_317 N p15 else (f_X12_next N p15).bind fun p20 => f_X12_jump_317 N p20)
def f_X12_jump_263 (N : Nat) (σ : RS) (x1 : Int32) (x3 : Int32) (x4 : Int32) (x5 : Int32) : Option (RS) :=
  if ib x4 460 then if ib x5 3000 then (if x1 = 0 then f_X12_jump_302 N (RS.setA (RS.setA σ 23 ((x5 : Int32).toNatClampNeg) (σ.a 47 ((x4 : Int32).toNatClampNeg))) 49 ((x4 : Int32).toNatClampNeg) x5) x1 x3 x4 else f_X12_jump_302 N (RS.setA (RS.setA σ 23 ((x5 : Int32).toNatClampNeg) (σ.a 47 ((x4 : Int32).toNatClampNeg))) 48 ((x4 : Int32).toNatClampNeg) x5) x1 x3 x4) else none else none
def f_X12_jump_234 (N : Nat) (σ : RS) (x1 : Int32) (x3 : Int32) (x4 : Int32) : Option (RS) :=
  (if x1 = 0 then if ib x4 460 then (f_X12_emit N σ 36 (σ.a 49 ((x4 : Int32).toNatClampNeg))).bind fun p10 => f_X12_jump_263 N p10.2 x1 x3 x4 p10.1 else none else if ib x4 460 then (f_X12_emit N σ 36 (σ.a 48 ((x4 : Int32).toNatClampNeg))).bind fun p23 => f_X12_jump_263 N p23.2 x1 x3 x4 p23.1 else none)
def f_X12_jump_171 (N : Nat) (σ : RS) (x1 : Int32) (x2 : Int32) (x3 : Int32) (x4 : Int32) : Option (RS) :=
  (if 0 ≤ x4 then (if x3 = 0 then f_X12_jump_234 N σ x1 x3 x4 else (if x1 = 0 then if ib x4 460 then (if 0 ≤ (σ.a 46 ((x4 : Int32).toNatClampNeg)) then f_X12_jump_234 N σ x1 x3 (σ.a 46 ((x4 : Int32).toNatClampNeg)) else (f_X12_fail N σ 5 (σ.i 11)).bind fun p28 => some p28) else none else f_X12_jump_234 N σ x1 x3 x4)) else (if x3 = 0 then (f_X12_fail N σ 5 x2).bind fun p32 => some p32 else (f_X12_fail N σ 3 (σ.i 11)).bind fun p35 => some p35))
def b_X12_jump_60 (N : Nat) (K : RS → Int32 → Int32 → Int32 → Int32 → Int32 → Option (RS)) (σ : RS) (x1 : Int32) (x2 : Int32) (x3 : Int32) (x4 : Int32) (x5 : Int32) : Option (RS) :=
  (if x5 < 0 then f_X12_jump_171 N σ x1 x2 x3 x4 else if ib x5 460 then (if (σ.a 44 ((x5 : Int32).toNatClampNeg)) = 3 then f_X12_jump_171 N σ x1 x2 x3 x4 else (if 0 ≤ x4 then f_X12_jump_171 N σ x1 x2 x3 x4 else (if x3 = 0 then (if (σ.a 44 ((x5 : Int32).toNatClampNeg)) = 0 then K σ x1 x2 x3 x5 (x5 + (-1)) else (if x1 = 0 then K σ x1 x2 x3 x4 (x5 + (-1)) else (if (σ.a 44 ((x5 : Int32).toNatClampNeg)) = 1 then K σ x1 x2 x3 x5 (x5 + (-1)) else K σ x1 x2 x3 x4 (x5 + (-1))))) else (if (σ.a 44 ((x5 : Int32).toNatClampNeg)) = 2 then (if (lg_cmp (σ.b 45 ((x5 : Int32).toNatClampNeg)) σ.l) = 0 then K σ x1 x2 x3 x5 (x5 + (-1)) else K σ x1 x2 x3 x4 (x5 + (-1))) else K σ x1 x2 x3 x4 (x5 + (-1)))))) else none)
def f_X12_jump_60 (N : Nat) : Nat → RS → Int32 → Int32 → Int32 → Int32 → Int32 → Option (RS)
  | 0 => fun _ _ _ _ _ _ => none
  | n+1 => b_X12_jump_60 N (f_X12_jump_60 N n)
def f_X12_jump_49 (N : Nat) (σ : RS) (x1 : Int32) (x2 : Int32) (x3 : Int32) : Option (RS) :=
  f_X12_jump_60 N N σ x1 x2 x3 (-1) ((σ.i 43) - 1)
def f_X12_jump_16 (N : Nat) (σ : RS) (x1 : Int32) : Option (RS) :=
  (f_X12_next N (RS.setI σ 55 ((σ.i 55) + 1))).bind fun p2 => (if (p2.i 10) = 2 then f_X12_jump_49 N p2 x1 (σ.i 11) 1 else f_X12_jump_49 N p2 x1 (σ.i 11) 0)
def f_X12_jump (N : Nat) (σ : RS) : Option (RS) :=
  (if (σ.i 10) = 418 then f_X12_jump_16 N σ 1 else f_X12_jump_16 N σ 0)
def f_X12_stat_309 (N : Nat) (σ : RS) : Option (RS) :=
  (f_X12_emit N σ 1 0).bind fun p10 => (if (p10.2.i 10) = 59 then (f_X12_next N p10.2).bind fun p17 => (f_X12_over N p17 1).bind fun p19 => some p19 else (f_X12_jump N p10.2).bind fun p13 => (f_X12_over N p13 0).bind fun p15 => some p15)
def f_X12_stat_240 (N : Nat) (σ : RS) (x1 : Int32) : Option (RS) :=
  if ib x1 1000 then (if (σ.a 64 ((x1 : Int32).toNatClampNeg)) = 2 then (if (σ.i 10) = 59 then (f_X12_can N σ 1).bind fun p7 => (if p7.1 = 0 then some p7.2 else f_X12_stat_309 N p7.2) else (if (σ.i 10) = 418 then (f_X12_can N σ 1).bind fun p22 => (if p22.1 = 0 then some p22.2 else f_X12_stat_309 N p22.2) else (if (σ.i 10) = 419 then (f_X12_can N σ 1).bind fun p29 => (if p29.1 = 0 then some p29.2 else f_X12_stat_309 N p29.2) else (f_X12_can N σ 0).bind fun p26 => (if p26.1 = 0 then some p26.2 else f_X12_stat_309 N p26.2)))) else (if (σ.a 64 ((x1 : Int32).toNatClampNeg)) = 5 then some σ else (f_X12_emit N σ 1 0).bind fun p33 => some p33.2)) else none
def f_X12_stat (N : Nat) (σ : RS) (x1 : Int32) : Option (RS) :=
  (if (σ.i 10) = 123 then if ib x1 1000 then some (RS.setA (RS.setI σ 53 ((σ.i 53) + 1)) 64 ((x1 : Int32).toNatClampNeg) 3) else none else (if (σ.i 10) = 410 then if ib x1 1000 then f_X12_stat_240 N (RS.setA (RS.setI σ 53 ((σ.i 53) + 1)) 64 ((x1 : Int32).toNatClampNeg) 4) x1 else none else (if (σ.i 10) = 411 then if ib x1 1000 then f_X12_stat_240 N (RS.setA (RS.setI σ 53 ((σ.i 53) + 1)) 64 ((x1 : Int32).toNatClampNeg) 4) x1 else none else (if (σ.i 10) = 2 then if ib x1 1000 then f_X12_stat_240 N (RS.setA (RS.setI σ 53 ((σ.i 53) + 1)) 64 ((x1 : Int32).toNatClampNeg) 5) x1 else none else (if (σ.i 10) = 412 then if ib x1 1000 then f_X12_stat_240 N (RS.setA (RS.setI σ 53 ((σ.i 53) + 1)) 64 ((x1 : Int32).toNatClampNeg) 6) x1 else none else (if (σ.i 10) = 420 then if ib x1 1000 then f_X12_stat_240 N (RS.setA (RS.setI σ 53 ((σ.i 53) + 1)) 64 ((x1 : Int32).toNatClampNeg) 6) x1 else none else (if (σ.i 10) = 431 then if ib x1 1000 then f_X12_stat_240 N (RS.setA (RS.setI σ 53 ((σ.i 53) + 1)) 64 ((x1 : Int32).toNatClampNeg) 6) x1 else none else (if (σ.i 10) = 421 then if ib x1 1000 then f_X12_stat_240 N (RS.setA (RS.setI σ 53 ((σ.i 53) + 1)) 64 ((x1 : Int32).toNatClampNeg) 7) x1 else none else (if (σ.i 10) = 427 then if ib x1 1000 then f_X12_stat_240 N (RS.setA (RS.setI σ 53 ((σ.i 53) + 1)) 64 ((x1 : Int32).toNatClampNeg) 8) x1 else none else (if (σ.i 10) = 413 then if ib x1 1000 then f_X12_stat_240 N (RS.setA (RS.setI σ 53 ((σ.i 53) + 1)) 64 ((x1 : Int32).toNatClampNeg) 9) x1 else none else (if (σ.i 10) = 415 then if ib x1 1000 then f_X12_stat_240 N (RS.setA (RS.setI σ 53 ((σ.i 53) + 1)) 64 ((x1 : Int32).toNatClampNeg) 10) x1 else none else (if (σ.i 10) = 416 then if ib x1 1000 then f_X12_stat_240 N (RS.setA (RS.setI σ 53 ((σ.i 53) + 1)) 64 ((x1 : Int32).toNatClampNeg) 11) x1 else none else (if (σ.i 10) = 417 then if ib x1 1000 then f_X12_stat_240 N (RS.setA (RS.setI σ 53 ((σ.i 53) + 1)) 64 ((x1 : Int32).toNatClampNeg) 12) x1 else none else (if (σ.i 10) = 422 then if ib x1 1000 then f_X12_stat_240 N (RS.setA (RS.setI σ 53 ((σ.i 53) + 1)) 64 ((x1 : Int32).toNatClampNeg) 13) x1 else none else (if (σ.i 10) = 428 then if ib x1 1000 then f_X12_stat_240 N (RS.setA (RS.setI σ 53 ((σ.i 53) + 1)) 64 ((x1 : Int32).toNatClampNeg) 14) x1 else none else (if (σ.i 10) = 423 then if ib x1 1000 then f_X12_stat_240 N (RS.setA (RS.setI σ 53 ((σ.i 53) + 1)) 64 ((x1 : Int32).toNatClampNeg) 15) x1 else none else if ib x1 1000 then f_X12_stat_240 N (RS.setA (RS.setI σ 53 ((σ.i 53) + 1)) 64 ((x1 : Int32).toNatClampNeg) 2) x1 else none))))))))))))))))
def f_X12_block (N : Nat) (σ : RS) (x1 : Int32) : Option (RS) :=
  if ib x1 1000 then (if (σ.a 65 ((x1 : Int32).toNatClampNeg)) = 0 then (f_X12_open N σ 123).bind fun p5 => (f_X12_then N (RS.setA p5.2 66 ((x1 : Int32).toNatClampNeg) (p5.2.i 38)) 1 1).bind fun p7 => some p7 else (f_X12_shut N σ 125).bind fun p3 => some (RS.setI (RS.setI p3.2 38 (p3.2.a 66 ((x1 : Int32).toNatClampNeg))) 63 ((p3.2.i 63) - 1))) else none
def f_X12_telling_22 (N : Nat) (σ : RS) (x1 : Int32) : Option (Int32 × RS) :=
  (f_X12_seenAs N σ σ.l).bind fun p5 => (if p5.1 < 0 then if ib x1 1000 then (f_X12_next N (RS.setB (RS.setI p5.2 54 ((p5.2.i 54) + 1)) 74 ((x1 : Int32).toNatClampNeg) p5.2.l)).bind fun p9 => some (1, p9) else none else (f_X12_fail N p5.2 4 (p5.2.i 11)).bind fun p11 => some (0, p11))
def f_X12_telling_20 (N : Nat) (σ : RS) : Option (Int32 × RS) :=
  some (0, σ)
def f_X12_telling (N : Nat) (σ : RS) (x1 : Int32) : Option (Int32 × RS) :=
  (if (σ.i 10) = 2 then (f_X12_can N σ 1).bind fun p13 => (if p13.1 = 0 then f_X12_telling_20 N p13.2 else f_X12_telling_22 N p13.2 x1) else (f_X12_can N σ 0).bind fun p2 => (if p2.1 = 0 then f_X12_telling_20 N p2.2 else f_X12_telling_22 N p2.2 x1))
def f_X12_tell (N : Nat) (σ : RS) (x1 : Int32) : Option (RS) :=
  if ib x1 1000 then (if (σ.a 65 ((x1 : Int32).toNatClampNeg)) = 0 then (f_X12_next N σ).bind fun p11 => (if (p11.i 15) = 0 then (f_X12_telling N p11 x1).bind fun p14 => (if p14.1 = 0 then some p14.2 else (f_X12_need N p14.2 61).bind fun p17 => (f_X12_then N p17.2 1 16).bind fun p19 => some p19) else some p11) else (f_X12_see N σ (σ.b 74 ((x1 : Int32).toNatClampNeg)) 0).bind fun p3 => (f_X12_emit N p3.2 5 p3.1).bind fun p5 => (f_X12_need N p5.2 59).bind fun p7 => (f_X12_over N p7.2 1).bind fun p9 => some p9) else none
def f_X12_label_188 (N : Nat) (σ : RS) : Option (RS) :=
  (f_X12_body N σ 1).bind fun p10 => some p10
def f_X12_label_168 (N : Nat) (σ : RS) : Option (RS) :=
  f_X12_label_188 N σ
def b_X12_label_125 (N : Nat) (K : RS → Int32 → Option (RS)) (σ : RS) (x6 : Int32) : Option (RS) :=
  (if x6 < 0 then f_X12_label_168 N σ else if ib x6 460 then (if (σ.a 44 ((x6 : Int32).toNatClampNeg)) = 2 then (if (σ.a 46 ((x6 : Int32).toNatClampNeg)) = (-2) then K (RS.setA σ 46 ((x6 : Int32).toNatClampNeg) (-3)) (x6 + (-1)) else f_X12_label_168 N σ) else f_X12_label_168 N σ) else none)
def f_X12_label_125 (N : Nat) : Nat → RS → Int32 → Option (RS)
  | 0 => fun _ _ => none
  | n+1 => b_X12_label_125 N (f_X12_label_125 N n)
def f_X12_label_110 (N : Nat) (σ : RS) (x5 : Int32) : Option (RS) :=
  if ib x5 460 then f_X12_label_125 N N (RS.setA σ 46 ((x5 : Int32).toNatClampNeg) (-3)) (x5 - 1) else none
def f_X12_label_60 (N : Nat) (σ : RS) (x1 : Int32) (x2 : Int64) : Option (RS) :=
  (f_X12_goal N σ 2 x2).bind fun p2 => if ib x1 1000 then (f_X12_next N (RS.setA p2.2 66 ((x1 : Int32).toNatClampNeg) p2.1)).bind fun p5 => (if (p5.i 10) = 415 then f_X12_label_110 N p5 p2.1 else (if (p5.i 10) = 416 then f_X12_label_110 N p5 p2.1 else (if (p5.i 10) = 417 then f_X12_label_110 N p5 p2.1 else (if (p5.i 10) = 2 then if ib p2.1 460 then f_X12_label_188 N (RS.setA p5 46 ((p2.1 : Int32).toNatClampNeg) (-2)) else none else f_X12_label_188 N p5)))) else none
def b_X12_label_8 (N : Nat) (K : RS → Int32 → Int64 → Int32 → Int32 → Option (RS)) (σ : RS) (x1 : Int32) (x2 : Int64) (x4 : Int32) (x5 : Int32) : Option (RS) :=
  (if x5 < 0 then f_X12_label_60 N σ x1 x2 else if ib x5 460 then (if (σ.a 44 ((x5 : Int32).toNatClampNeg)) = 3 then f_X12_label_60 N σ x1 x2 else (if (σ.a 44 ((x5 : Int32).toNatClampNeg)) = 2 then (if (lg_cmp (σ.b 45 ((x5 : Int32).toNatClampNeg)) x2) = 0 then (f_X12_fail N σ 4 x4).bind fun p23 => K p23 x1 x2 x4 (x5 + (-1)) else K σ x1 x2 x4 (x5 + (-1))) else K σ x1 x2 x4 (x5 + (-1)))) else none)
def f_X12_label_8 (N : Nat) : Nat → RS → Int32 → Int64 → Int32 → Int32 → Option (RS)
  | 0 => fun _ _ _ _ _ => none
  | n+1 => b_X12_label_8 N (f_X12_label_8 N n)
def f_X12_label (N : Nat) (σ : RS) (x1 : Int32) (x2 : Int64) (x4 : Int32) : Option (RS) :=
  f_X12_label_8 N N σ x1 x2 x4 ((σ.i 43) - 1)
def f_X12_got_22 (N : Nat) (σ : RS) (x3 : Int32) : Option (Int32 × RS) :=
  (f_X12_fail N σ 3 x3).bind fun p4 => some ((-1), p4)
def f_X12_got (N : Nat) (σ : RS) (x1 : Int64) (x3 : Int32) : Option (Int32 × RS) :=
  (f_X12_seenAs N σ x1).bind fun p1 => (if p1.1 < 0 then f_X12_got_22 N p1.2 x3 else if ib p1.1 460 then (if (p1.2.a 41 ((p1.1 : Int32).toNatClampNeg)) = 0 then some ((p1.2.a 40 ((p1.1 : Int32).toNatClampNeg)), p1.2) else f_X12_got_22 N p1.2 x3) else none)
def f_X12_named_207 (N : Nat) (σ : RS) (x1 : Int32) (x5 : Int32) (x6 : Int32) : Option (RS) :=
  (f_X12_next N σ).bind fun p17 => (if x6 = 0 then if ib x1 1000 then (f_X12_then N (RS.setA p17 66 ((x1 : Int32).toNatClampNeg) x5) 2 16).bind fun p21 => some p21 else none else (f_X12_emit N p17 6 x5).bind fun p23 => (f_X12_need N p23.2 59).bind fun p25 => (f_X12_over N p25.2 1).bind fun p27 => some p27)
def f_X12_named_183 (N : Nat) (σ : RS) (x1 : Int32) (x5 : Int32) : Option (RS) :=
  (f_X12_emit N σ 1 0).bind fun p14 => (if (p14.2.i 10) = 307 then f_X12_named_207 N p14.2 x1 x5 1 else f_X12_named_207 N p14.2 x1 x5 0)
def f_X12_named (N : Nat) (σ : RS) (x1 : Int32) : Option (RS) :=
  if ib x1 1000 then (if (σ.a 65 ((x1 : Int32).toNatClampNeg)) = 1 then if ib (σ.a 66 ((x1 : Int32).toNatClampNeg)) 460 then (f_X12_patch N σ (σ.a 48 (((σ.a 66 ((x1 : Int32).toNatClampNeg)) : Int32).toNatClampNeg)) (σ.i 20)).bind fun p45 => (if (p45.i 75) = 0 then (if (p45.a 50 (((σ.a 66 ((x1 : Int32).toNatClampNeg)) : Int32).toNatClampNeg)) = 0 then (f_X12_over N (RS.setI p45 43 ((p45.i 43) - 1)) 0).bind fun p51 => some p51 else (f_X12_over N (RS.setI p45 43 ((p45.i 43) - 1)) 1).bind fun p53 => some p53) else (f_X12_over N (RS.setI p45 43 ((p45.i 43) - 1)) 1).bind fun p48 => some p48) else none else (if (σ.a 65 ((x1 : Int32).toNatClampNeg)) = 2 then (f_X12_emit N σ 5 (σ.a 66 ((x1 : Int32).toNatClampNeg))).bind fun p38 => (f_X12_need N p38.2 59).bind fun p40 => (f_X12_over N p40.2 1).bind fun p42 => some p42 else (f_X12_next N σ).bind fun p4 => (if (p4.i 10) = 58 then (f_X12_label N p4 x1 σ.l (σ.i 11)).bind fun p36 => some p36 else (f_X12_got N p4 σ.l (σ.i 11)).bind fun p7 => (if (p7.2.i 15) = 0 then (if (p7.2.i 10) = 61 then (f_X12_can N p7.2 1).bind fun p11 => (if p11.1 = 0 then some p11.2 else f_X12_named_183 N p11.2 x1 p7.1) else (if (p7.2.i 10) = 307 then (f_X12_can N p7.2 1).bind fun p33 => (if p33.1 = 0 then some p33.2 else f_X12_named_183 N p33.2 x1 p7.1) else (f_X12_can N p7.2 0).bind fun p30 => (if p30.1 = 0 then some p30.2 else f_X12_named_183 N p30.2 x1 p7.1))) else some p7.2)))) else none
def b_X12_isInArms_2 (N : Nat) (K : RS → Int32 → Option (Int32 × RS)) (σ : RS) (x1 : Int32) : Option (Int32 × RS) :=
  (if (σ.i 43) ≤ x1 then some (0, σ) else if ib x1 460 then (if (σ.a 44 ((x1 : Int32).toNatClampNeg)) = 3 then some (1, σ) else K σ (x1 + 1)) else none)
def f_X12_isInArms_2 (N : Nat) : Nat → RS → Int32 → Option (Int32 × RS)
  | 0 => fun _ _ => none
  | n+1 => b_X12_isInArms_2 N (f_X12_isInArms_2 N n)
def f_X12_isInArms (N : Nat) (σ : RS) : Option (Int32 × RS) :=
  f_X12_isInArms_2 N N σ 0
def b_X12_ending_119 (N : Nat) (K : RS → Int32 → Int32 → Int32 → Option (RS)) (σ : RS) (x1 : Int32) (x2 : Int32) (x3 : Int32) : Option (RS) :=
  (if (σ.i 43) ≤ x3 then (f_X12_need N σ 59).bind fun p8 => if ib x1 1000 then (if (p8.2.a 66 ((x1 : Int32).toNatClampNeg)) = 412 then (f_X12_over N p8.2 1).bind fun p14 => some p14 else (f_X12_over N p8.2 0).bind fun p12 => some p12) else none else if ib x3 460 then (if (σ.a 44 ((x3 : Int32).toNatClampNeg)) = 3 then if ib x2 3000 then K (RS.setA σ 23 ((x2 : Int32).toNatClampNeg) (σ.a 47 ((x3 : Int32).toNatClampNeg))) x1 x2 (x3 + 1) else none else if ib x2 3000 then K (RS.setA σ 23 ((x2 : Int32).toNatClampNeg) (σ.a 23 ((x2 : Int32).toNatClampNeg))) x1 x2 (x3 + 1) else none) else none)
def f_X12_ending_119 (N : Nat) : Nat → RS → Int32 → Int32 → Int32 → Option (RS)
  | 0 => fun _ _ _ _ => none
  | n+1 => b_X12_ending_119 N (f_X12_ending_119 N n)
def f_X12_ending_117 (N : Nat) (σ : RS) (x1 : Int32) (x2 : Int32) : Option (RS) :=
  f_X12_ending_119 N N σ x1 x2 0
def f_X12_ending_63 (N : Nat) (σ : RS) : Option (RS) :=
  (f_X12_next N σ).bind fun p26 => (f_X12_then N p26 1 16).bind fun p28 => some p28
def f_X12_ending_53 (N : Nat) (σ : RS) : Option (RS) :=
  (f_X12_fail N σ 5 (σ.i 11)).bind fun p33 => some p33
def f_X12_ending_36 (N : Nat) (σ : RS) : Option (RS) :=
  (if (σ.i 10) = 431 then (f_X12_isInArms N σ).bind fun p30 => (if p30.1 = 0 then f_X12_ending_53 N p30.2 else f_X12_ending_63 N p30.2) else f_X12_ending_63 N σ)
def f_X12_ending (N : Nat) (σ : RS) (x1 : Int32) : Option (RS) :=
  if ib x1 1000 then (if (σ.a 65 ((x1 : Int32).toNatClampNeg)) = 0 then (if (σ.i 10) = 420 then (f_X12_isInArms N (RS.setA σ 66 ((x1 : Int32).toNatClampNeg) (σ.i 10))).bind fun p35 => (if p35.1 = 0 then f_X12_ending_36 N p35.2 else f_X12_ending_53 N p35.2) else f_X12_ending_36 N (RS.setA σ 66 ((x1 : Int32).toNatClampNeg) (σ.i 10))) else (if (σ.a 66 ((x1 : Int32).toNatClampNeg)) = 412 then (f_X12_emit N σ 16 0).bind fun p22 => f_X12_ending_117 N p22.2 x1 p22.1 else (if (σ.a 66 ((x1 : Int32).toNatClampNeg)) = 420 then (f_X12_emit N σ 17 0).bind fun p20 => f_X12_ending_117 N p20.2 x1 p20.1 else (f_X12_emit N σ 18 0).bind fun p5 => f_X12_ending_117 N p5.2 x1 p5.1))) else none
def f_X12_throwing_142 (N : Nat) (σ : RS) : Option (RS) :=
  (f_X12_fail N σ 3 (σ.i 11)).bind fun p13 => some p13
def f_X12_throwing_69 (N : Nat) (σ : RS) (x1 : Int32) : Option (RS) :=
  (if (σ.i 10) = 5 then (if (σ.i 14) < (σ.i 3) then if ib x1 1000 then (f_X12_next N (RS.setA σ 66 ((x1 : Int32).toNatClampNeg) (σ.i 14))).bind fun p27 => (f_X12_then N p27 1 16).bind fun p29 => some p29 else none else (f_X12_fail N σ 3 (σ.i 11)).bind fun p31 => some p31) else (f_X12_seenAs N σ σ.l).bind fun p10 => (if p10.1 < 0 then f_X12_throwing_142 N p10.2 else if ib p10.1 460 then (if (p10.2.a 41 ((p10.1 : Int32).toNatClampNeg)) = 0 then f_X12_throwing_142 N p10.2 else (f_X12_emit N p10.2 21 (p10.2.a 40 ((p10.1 : Int32).toNatClampNeg))).bind fun p17 => (f_X12_next N p17.2).bind fun p19 => (f_X12_need N p19 59).bind fun p21 => (f_X12_over N p21.2 0).bind fun p23 => some p23) else none))
def f_X12_throwing (N : Nat) (σ : RS) (x1 : Int32) : Option (RS) :=
  if ib x1 1000 then (if (σ.a 65 ((x1 : Int32).toNatClampNeg)) = 1 then (f_X12_emit N σ 19 (σ.a 66 ((x1 : Int32).toNatClampNeg))).bind fun p40 => (f_X12_need N p40.2 59).bind fun p42 => (f_X12_over N p42.2 0).bind fun p44 => some p44 else (f_X12_next N σ).bind fun p3 => (if (p3.i 10) = 5 then (f_X12_can N p3 1).bind fun p6 => (if p6.1 = 0 then some p6.2 else f_X12_throwing_69 N p6.2 x1) else (if (p3.i 10) = 2 then (f_X12_can N p3 1).bind fun p37 => (if p37.1 = 0 then some p37.2 else f_X12_throwing_69 N p37.2 x1) else (f_X12_can N p3 0).bind fun p34 => (if p34.1 = 0 then some p34.2 else f_X12_throwing_69 N p34.2 x1)))) else none
def f_X12_asserted (N : Nat) (σ : RS) (x1 : Int32) : Option (RS) :=
  if ib x1 1000 then (if (σ.a 65 ((x1 : Int32).toNatClampNeg)) = 0 then (f_X12_next N σ).bind fun p3 => (f_X12_emit N p3 22 0).bind fun p5 => (f_X12_then N (RS.setA p5.2 66 ((x1 : Int32).toNatClampNeg) p5.1) 1 20).bind fun p7 => some p7 else (if (σ.a 65 ((x1 : Int32).toNatClampNeg)) = 1 then (f_X12_emit N σ 14 0).bind fun p10 => (if (p10.2.i 10) = 58 then (f_X12_next N (RS.setA p10.2 67 ((x1 : Int32).toNatClampNeg) p10.1)).bind fun p15 => (f_X12_then N p15 2 16).bind fun p17 => some p17 else (f_X12_emit N (RS.setA p10.2 67 ((x1 : Int32).toNatClampNeg) p10.1) 2 0).bind fun p13 => some (RS.setA p13.2 65 ((x1 : Int32).toNatClampNeg) 2)) else (f_X12_emit N σ 19 3).bind fun p19 => if ib (p19.2.a 66 ((x1 : Int32).toNatClampNeg)) 3000 then if ib (p19.2.a 67 ((x1 : Int32).toNatClampNeg)) 3000 then (f_X12_need N (RS.setA (RS.setA p19.2 22 (((p19.2.a 66 ((x1 : Int32).toNatClampNeg)) : Int32).toNatClampNeg) (p19.2.i 20)) 22 (((p19.2.a 67 ((x1 : Int32).toNatClampNeg)) : Int32).toNatClampNeg) (p19.2.i 20)) 59).bind fun p23 => (f_X12_over N p23.2 1).bind fun p25 => some p25 else none else none)) else none
def f_X12_branch_113 (N : Nat) (σ : RS) (x1 : Int32) : Option (RS) :=
  (f_X12_emit N σ 15 0).bind fun p24 => if ib x1 1000 then if ib (p24.2.a 66 ((x1 : Int32).toNatClampNeg)) 3000 then (f_X12_body N (RS.setA (RS.setA p24.2 68 ((x1 : Int32).toNatClampNeg) p24.1) 22 (((p24.2.a 66 ((x1 : Int32).toNatClampNeg)) : Int32).toNatClampNeg) (p24.2.i 20)) 3).bind fun p28 => some p28 else none else none
def f_X12_branch (N : Nat) (σ : RS) (x1 : Int32) : Option (RS) :=
  if ib x1 1000 then (if (σ.a 65 ((x1 : Int32).toNatClampNeg)) = 0 then (f_X12_next N σ).bind fun p3 => (f_X12_open N p3 40).bind fun p5 => (f_X12_then N p5.2 1 20).bind fun p7 => some p7 else (if (σ.a 65 ((x1 : Int32).toNatClampNeg)) = 1 then (f_X12_shut N σ 41).bind fun p10 => (f_X12_emit N p10.2 13 0).bind fun p12 => (f_X12_body N (RS.setA p12.2 66 ((x1 : Int32).toNatClampNeg) p12.1) 2).bind fun p14 => some p14 else (if (σ.a 65 ((x1 : Int32).toNatClampNeg)) = 2 then (if (σ.i 10) = 414 then (f_X12_next N σ).bind fun p21 => (if (p21.i 75) = 0 then f_X12_branch_113 N (RS.setA p21 67 ((x1 : Int32).toNatClampNeg) 0) x1 else f_X12_branch_113 N (RS.setA p21 67 ((x1 : Int32).toNatClampNeg) 1) x1) else if ib (σ.a 66 ((x1 : Int32).toNatClampNeg)) 3000 then (f_X12_over N (RS.setA σ 22 (((σ.a 66 ((x1 : Int32).toNatClampNeg)) : Int32).toNatClampNeg) (σ.i 20)) 1).bind fun p19 => some p19 else none) else if ib (σ.a 68 ((x1 : Int32).toNatClampNeg)) 3000 then (if (σ.i 75) = 0 then (if (σ.a 67 ((x1 : Int32).toNatClampNeg)) = 1 then (f_X12_over N (RS.setA σ 22 (((σ.a 68 ((x1 : Int32).toNatClampNeg)) : Int32).toNatClampNeg) (σ.i 20)) 1).bind fun p37 => some p37 else (f_X12_over N (RS.setA σ 22 (((σ.a 68 ((x1 : Int32).toNatClampNeg)) : Int32).toNatClampNeg) (σ.i 20)) 0).bind fun p35 => some p35) else (f_X12_over N (RS.setA σ 22 (((σ.a 68 ((x1 : Int32).toNatClampNeg)) : Int32).toNatClampNeg) (σ.i 20)) 1).bind fun p32 => some p32) else none))) else none
def f_X12_isJustTrue_18 (N : Nat) (σ : RS) : Option (Int32 × RS) :=
  some (0, σ)
def f_X12_isJustTrue (N : Nat) (σ : RS) (x1 : Int32) : Option (Int32 × RS) :=
  (if x1 ≤ 0 then f_X12_isJustTrue_18 N σ else (if (σ.i 17) = (x1 + 1) then some (1, σ) else f_X12_isJustTrue_18 N σ))
def f_X12_whiles_77 (N : Nat) (σ : RS) : Option (RS) :=
  (f_X12_then N σ 1 20).bind fun p8 => some p8
def f_X12_whiles_111 (N : Nat) (σ : RS) (x1 : Int32) : Option (RS) :=
  (f_X12_shut N σ 41).bind fun p14 => (f_X12_emit N p14.2 13 0).bind fun p16 => if ib x1 1000 then (f_X12_emit N (RS.setA p16.2 67 ((x1 : Int32).toNatClampNeg) p16.1) 1 0).bind fun p19 => (f_X12_loopGoal N p19.2).bind fun p21 => (f_X12_body N (RS.setA p21.2 68 ((x1 : Int32).toNatClampNeg) p21.1) 2).bind fun p23 => some p23 else none
def f_X12_whiles (N : Nat) (σ : RS) (x1 : Int32) : Option (RS) :=
  if ib x1 1000 then (if (σ.a 65 ((x1 : Int32).toNatClampNeg)) = 0 then (f_X12_next N σ).bind fun p3 => (f_X12_open N (RS.setA p3 66 ((x1 : Int32).toNatClampNeg) (p3.i 20)) 40).bind fun p5 => (if (p5.2.i 10) = 432 then f_X12_whiles_77 N (RS.setA p5.2 69 ((x1 : Int32).toNatClampNeg) (p5.2.i 17)) else f_X12_whiles_77 N (RS.setA p5.2 69 ((x1 : Int32).toNatClampNeg) 0)) else (if (σ.a 65 ((x1 : Int32).toNatClampNeg)) = 1 then (f_X12_isJustTrue N σ (σ.a 69 ((x1 : Int32).toNatClampNeg))).bind fun p11 => (if p11.1 = 0 then f_X12_whiles_111 N (RS.setA p11.2 71 ((x1 : Int32).toNatClampNeg) 0) x1 else f_X12_whiles_111 N (RS.setA p11.2 71 ((x1 : Int32).toNatClampNeg) 1) x1) else if ib (σ.a 68 ((x1 : Int32).toNatClampNeg)) 460 then (f_X12_patch N σ (σ.a 49 (((σ.a 68 ((x1 : Int32).toNatClampNeg)) : Int32).toNatClampNeg)) (σ.a 66 ((x1 : Int32).toNatClampNeg))).bind fun p26 => (f_X12_emit N p26 15 (p26.a 66 ((x1 : Int32).toNatClampNeg))).bind fun p28 => if ib (p28.2.a 67 ((x1 : Int32).toNatClampNeg)) 3000 then (f_X12_patch N (RS.setA p28.2 22 (((p28.2.a 67 ((x1 : Int32).toNatClampNeg)) : Int32).toNatClampNeg) (p28.2.i 20)) (p28.2.a 48 (((σ.a 68 ((x1 : Int32).toNatClampNeg)) : Int32).toNatClampNeg)) (p28.2.i 20)).bind fun p31 => (if (p31.a 71 ((x1 : Int32).toNatClampNeg)) = 0 then (f_X12_over N (RS.setI p31 43 ((p31.i 43) - 1)) 1).bind fun p34 => some p34 else (if (p31.a 50 (((σ.a 68 ((x1 : Int32).toNatClampNeg)) : Int32).toNatClampNeg)) = 0 then (f_X12_over N (RS.setI p31 43 ((p31.i 43) - 1)) 0).bind fun p37 => some p37 else (f_X12_over N (RS.setI p31 43 ((p31.i 43) - 1)) 1).bind fun p39 => some p39)) else none else none)) else none
def f_X12_repeats_195 (N : Nat) (σ : RS) : Option (RS) :=
  (f_X12_then N σ 2 20).bind fun p26 => some p26
def f_X12_repeats_134 (N : Nat) (σ : RS) (x1 : Int32) (x2 : Int32) : Option (RS) :=
  if ib x2 460 then if ib x1 1000 then (f_X12_need N (RS.setI (RS.setA σ 70 ((x1 : Int32).toNatClampNeg) (σ.a 48 ((x2 : Int32).toNatClampNeg))) 43 ((σ.i 43) - 1)) 415).bind fun p21 => (f_X12_open N p21.2 40).bind fun p23 => (if (p23.2.i 10) = 432 then f_X12_repeats_195 N (RS.setA p23.2 69 ((x1 : Int32).toNatClampNeg) (p23.2.i 17)) else f_X12_repeats_195 N (RS.setA p23.2 69 ((x1 : Int32).toNatClampNeg) 0)) else none else none
def f_X12_repeats_114 (N : Nat) (σ : RS) (x1 : Int32) (x2 : Int32) : Option (RS) :=
  if ib x2 460 then (if (σ.a 50 ((x2 : Int32).toNatClampNeg)) = 0 then if ib x1 1000 then f_X12_repeats_134 N (RS.setA σ 72 ((x1 : Int32).toNatClampNeg) 0) x1 x2 else none else if ib x1 1000 then f_X12_repeats_134 N (RS.setA σ 72 ((x1 : Int32).toNatClampNeg) 1) x1 x2 else none) else none
def f_X12_repeats (N : Nat) (σ : RS) (x1 : Int32) : Option (RS) :=
  if ib x1 1000 then (if (σ.a 65 ((x1 : Int32).toNatClampNeg)) = 0 then (f_X12_next N σ).bind fun p3 => (f_X12_emit N p3 1 0).bind fun p5 => (f_X12_loopGoal N (RS.setA p5.2 66 ((x1 : Int32).toNatClampNeg) p5.1)).bind fun p7 => (f_X12_body N (RS.setA p7.2 68 ((x1 : Int32).toNatClampNeg) p7.1) 1).bind fun p9 => some p9 else (if (σ.a 65 ((x1 : Int32).toNatClampNeg)) = 1 then if ib (σ.a 68 ((x1 : Int32).toNatClampNeg)) 460 then (f_X12_patch N σ (σ.a 49 (((σ.a 68 ((x1 : Int32).toNatClampNeg)) : Int32).toNatClampNeg)) (σ.i 20)).bind fun p13 => (if (p13.i 75) = 0 then (if (p13.a 51 (((σ.a 68 ((x1 : Int32).toNatClampNeg)) : Int32).toNatClampNeg)) = 0 then f_X12_repeats_114 N (RS.setA p13 67 ((x1 : Int32).toNatClampNeg) 0) x1 (σ.a 68 ((x1 : Int32).toNatClampNeg)) else f_X12_repeats_114 N (RS.setA p13 67 ((x1 : Int32).toNatClampNeg) 1) x1 (σ.a 68 ((x1 : Int32).toNatClampNeg))) else f_X12_repeats_114 N (RS.setA p13 67 ((x1 : Int32).toNatClampNeg) 1) x1 (σ.a 68 ((x1 : Int32).toNatClampNeg))) else none else (f_X12_isJustTrue N σ (σ.a 69 ((x1 : Int32).toNatClampNeg))).bind fun p30 => (f_X12_shut N p30.2 41).bind fun p32 => (f_X12_need N p32.2 59).bind fun p34 => (f_X12_emit N p34.2 14 (p34.2.a 66 ((x1 : Int32).toNatClampNeg))).bind fun p36 => (f_X12_patch N p36.2 (p36.2.a 70 ((x1 : Int32).toNatClampNeg)) (p36.2.i 20)).bind fun p38 => (if (p38.a 67 ((x1 : Int32).toNatClampNeg)) = 1 then (if p30.1 = 0 then (f_X12_over N p38 1).bind fun p47 => some p47 else (if (p38.a 72 ((x1 : Int32).toNatClampNeg)) = 1 then (f_X12_over N p38 1).bind fun p52 => some p52 else (f_X12_over N p38 0).bind fun p50 => some p50)) else (if (p38.a 72 ((x1 : Int32).toNatClampNeg)) = 1 then (f_X12_over N p38 1).bind fun p44 => some p44 else (f_X12_over N p38 0).bind fun p42 => some p42)))) else none
def f_X12_forHead_231 (N : Nat) (σ : RS) (x1 : Int32) : Option (RS) :=
  if ib x1 1000 then some (RS.setA σ 65 ((x1 : Int32).toNatClampNeg) 3) else none
def f_X12_forHead_196 (N : Nat) (σ : RS) : Option (RS) :=
  (f_X12_next N σ).bind fun p21 => (f_X12_then N p21 2 16).bind fun p23 => some p23
def f_X12_forHead_142 (N : Nat) (σ : RS) : Option (RS) :=
  some σ
def f_X12_forHead_76 (N : Nat) (σ : RS) (x1 : Int32) (x2 : Int32) : Option (RS) :=
  (f_X12_next N σ).bind fun p38 => (if x2 = 0 then (f_X12_then N p38 1 16).bind fun p50 => f_X12_forHead_142 N p50 else (if (p38.i 10) = 434 then (f_X12_next N p38).bind fun p45 => (f_X12_emit N p45 20 1).bind fun p47 => if ib x1 1000 then f_X12_forHead_142 N (RS.setA p47.2 65 ((x1 : Int32).toNatClampNeg) 12) else none else if ib x1 1000 then (f_X12_then N (RS.setA p38 68 ((x1 : Int32).toNatClampNeg) 0) 10 16).bind fun p43 => f_X12_forHead_142 N p43 else none))
def f_X12_forHead_61 (N : Nat) (σ : RS) (x1 : Int32) : Option (RS) :=
  (if (σ.i 10) = 58 then f_X12_forHead_76 N σ x1 1 else f_X12_forHead_76 N σ x1 0)
def f_X12_forHead (N : Nat) (σ : RS) (x1 : Int32) : Option (RS) :=
  (if (σ.i 15) = 0 then (if (σ.i 10) = 410 then (f_X12_next N σ).bind fun p28 => (f_X12_telling N p28 x1).bind fun p30 => (if p30.1 = 0 then some p30.2 else (if (p30.2.i 10) = 61 then (f_X12_can N p30.2 1).bind fun p34 => (if p34.1 = 0 then some p34.2 else f_X12_forHead_61 N p34.2 x1) else (if (p30.2.i 10) = 58 then (f_X12_can N p30.2 1).bind fun p56 => (if p56.1 = 0 then some p56.2 else f_X12_forHead_61 N p56.2 x1) else (f_X12_can N p30.2 0).bind fun p53 => (if p53.1 = 0 then some p53.2 else f_X12_forHead_61 N p53.2 x1)))) else (if (σ.i 10) = 2 then (f_X12_got N σ σ.l (σ.i 11)).bind fun p12 => if ib x1 1000 then (f_X12_next N (RS.setA p12.2 66 ((x1 : Int32).toNatClampNeg) p12.1)).bind fun p15 => (if (p15.i 10) = 61 then (f_X12_can N p15 1).bind fun p25 => (if p25.1 = 0 then some p25.2 else f_X12_forHead_196 N p25.2) else (f_X12_can N p15 0).bind fun p18 => (if p18.1 = 0 then some p18.2 else f_X12_forHead_196 N p18.2)) else none else (if (σ.i 10) = 59 then (f_X12_can N σ 1).bind fun p9 => (if p9.1 = 0 then some p9.2 else f_X12_forHead_231 N p9.2 x1) else (f_X12_can N σ 0).bind fun p5 => (if p5.1 = 0 then some p5.2 else f_X12_forHead_231 N p5.2 x1)))) else some σ)
def f_X12_forBehind_59 (N : Nat) (σ : RS) (x1 : Int32) : Option (RS) :=
  if ib x1 1000 then some (RS.setA σ 65 ((x1 : Int32).toNatClampNeg) 7) else none
def f_X12_forBehind_159 (N : Nat) (σ : RS) (x1 : Int32) (x2 : Int32) : Option (RS) :=
  (f_X12_next N σ).bind fun p25 => (if x2 = 0 then (f_X12_then N p25 6 16).bind fun p28 => some p28 else if ib x1 1000 then (f_X12_emit N p25 6 (p25.a 73 ((x1 : Int32).toNatClampNeg))).bind fun p31 => some (RS.setA p31.2 65 ((x1 : Int32).toNatClampNeg) 7) else none)
def f_X12_forBehind_143 (N : Nat) (σ : RS) (x1 : Int32) : Option (RS) :=
  (if (σ.i 10) = 307 then f_X12_forBehind_159 N σ x1 1 else f_X12_forBehind_159 N σ x1 0)
def f_X12_forBehind_89 (N : Nat) (σ : RS) (x1 : Int32) : Option (RS) :=
  (f_X12_got N σ σ.l (σ.i 11)).bind fun p15 => if ib x1 1000 then (f_X12_next N (RS.setA p15.2 73 ((x1 : Int32).toNatClampNeg) p15.1)).bind fun p18 => (if (p18.i 10) = 61 then (f_X12_can N p18 1).bind fun p21 => (if p21.1 = 0 then some p21.2 else f_X12_forBehind_143 N p21.2 x1) else (if (p18.i 10) = 307 then (f_X12_can N p18 1).bind fun p37 => (if p37.1 = 0 then some p37.2 else f_X12_forBehind_143 N p37.2 x1) else (f_X12_can N p18 0).bind fun p34 => (if p34.1 = 0 then some p34.2 else f_X12_forBehind_143 N p34.2 x1))) else none
def f_X12_forBehind (N : Nat) (σ : RS) (x1 : Int32) : Option (RS) :=
  (f_X12_need N σ 59).bind fun p1 => (f_X12_emit N p1.2 13 0).bind fun p3 => if ib x1 1000 then (f_X12_emit N (RS.setA p3.2 67 ((x1 : Int32).toNatClampNeg) p3.1) 15 0).bind fun p6 => (if (p6.2.i 15) = 0 then (if (p6.2.i 10) = 41 then f_X12_forBehind_59 N (RS.setA (RS.setA p6.2 68 ((x1 : Int32).toNatClampNeg) p6.1) 70 ((x1 : Int32).toNatClampNeg) (p6.2.i 20)) x1 else (if (p6.2.i 10) = 2 then (f_X12_can N (RS.setA (RS.setA p6.2 68 ((x1 : Int32).toNatClampNeg) p6.1) 70 ((x1 : Int32).toNatClampNeg) (p6.2.i 20)) 1).bind fun p40 => (if p40.1 = 0 then some p40.2 else f_X12_forBehind_89 N p40.2 x1) else (f_X12_can N (RS.setA (RS.setA p6.2 68 ((x1 : Int32).toNatClampNeg) p6.1) 70 ((x1 : Int32).toNatClampNeg) (p6.2.i 20)) 0).bind fun p12 => (if p12.1 = 0 then some p12.2 else f_X12_forBehind_89 N p12.2 x1))) else f_X12_forBehind_59 N (RS.setA (RS.setA p6.2 68 ((x1 : Int32).toNatClampNeg) p6.1) 70 ((x1 : Int32).toNatClampNeg) (p6.2.i 20)) x1) else none
def f_X12_rows (N : Nat) (σ : RS) (x1 : Int32) : Option (RS) :=
  if ib x1 1000 then (if (σ.a 65 ((x1 : Int32).toNatClampNeg)) = 10 then (if (σ.i 10) = 44 then (f_X12_next N (RS.setA σ 68 ((x1 : Int32).toNatClampNeg) ((σ.a 68 ((x1 : Int32).toNatClampNeg)) + 1))).bind fun p30 => (f_X12_then N p30 10 16).bind fun p32 => some p32 else (f_X12_emit N (RS.setA σ 68 ((x1 : Int32).toNatClampNeg) ((σ.a 68 ((x1 : Int32).toNatClampNeg)) + 1)) 23 ((upd (σ.a 68) ((x1 : Int32).toNatClampNeg) ((σ.a 68 ((x1 : Int32).toNatClampNeg)) + 1)) ((x1 : Int32).toNatClampNeg))).bind fun p28 => some (RS.setA p28.2 65 ((x1 : Int32).toNatClampNeg) 12)) else (if (σ.a 65 ((x1 : Int32).toNatClampNeg)) = 12 then (f_X12_see N σ (σ.b 74 ((x1 : Int32).toNatClampNeg)) 0).bind fun p16 => (f_X12_shut N p16.2 41).bind fun p18 => (f_X12_emit N (RS.setI p18.2 52 ((p18.2.i 52) + 1)) 24 0).bind fun p20 => if ib ((upd (p20.2.a 66) ((x1 : Int32).toNatClampNeg) p20.1) ((x1 : Int32).toNatClampNeg)) 3000 then (f_X12_loopGoal N (RS.setA (RS.setA p20.2 66 ((x1 : Int32).toNatClampNeg) p20.1) 23 ((((upd (p20.2.a 66) ((x1 : Int32).toNatClampNeg) p20.1) ((x1 : Int32).toNatClampNeg)) : Int32).toNatClampNeg) p16.1)).bind fun p23 => (f_X12_body N (RS.setA p23.2 73 ((x1 : Int32).toNatClampNeg) p23.1) 13).bind fun p25 => some p25 else none else if ib (σ.a 73 ((x1 : Int32).toNatClampNeg)) 460 then (f_X12_patch N σ (σ.a 49 (((σ.a 73 ((x1 : Int32).toNatClampNeg)) : Int32).toNatClampNeg)) (σ.a 66 ((x1 : Int32).toNatClampNeg))).bind fun p5 => (f_X12_emit N p5 15 (p5.a 66 ((x1 : Int32).toNatClampNeg))).bind fun p7 => if ib (p7.2.a 66 ((x1 : Int32).toNatClampNeg)) 3000 then (f_X12_patch N (RS.setA p7.2 22 (((p7.2.a 66 ((x1 : Int32).toNatClampNeg)) : Int32).toNatClampNeg) (p7.2.i 20)) (p7.2.a 48 (((σ.a 73 ((x1 : Int32).toNatClampNeg)) : Int32).toNatClampNeg)) (p7.2.i 20)).bind fun p10 => (f_X12_emit N p10 25 0).bind fun p12 => (f_X12_over N (RS.setI (RS.setI (RS.setI p12.2 52 ((p12.2.i 52) - 1)) 43 ((p12.2.i 43) - 1)) 38 (p12.2.a 71 ((x1 : Int32).toNatClampNeg))) 1).bind fun p14 => some p14 else none else none)) else none
def f_X12_fors_195 (N : Nat) (σ : RS) (x1 : Int32) : Option (RS) :=
  (if (σ.i 10) = 59 then (f_X12_emit N σ 2 1).bind fun p26 => if ib x1 1000 then some (RS.setA p26.2 65 ((x1 : Int32).toNatClampNeg) 5) else none else (f_X12_then N σ 4 20).bind fun p24 => some p24)
def f_X12_fors_175 (N : Nat) (σ : RS) (x1 : Int32) : Option (RS) :=
  (if (σ.i 10) = 59 then if ib x1 1000 then f_X12_fors_195 N (RS.setA σ 72 ((x1 : Int32).toNatClampNeg) 1) x1 else none else if ib x1 1000 then f_X12_fors_195 N (RS.setA σ 72 ((x1 : Int32).toNatClampNeg) 0) x1 else none)
def f_X12_fors_255 (N : Nat) (σ : RS) (x1 : Int32) : Option (RS) :=
  if ib x1 1000 then some (RS.setA σ 65 ((x1 : Int32).toNatClampNeg) 5) else none
def f_X12_fors_469 (N : Nat) (σ : RS) : Option (RS) :=
  some σ
def f_X12_fors (N : Nat) (σ : RS) (x1 : Int32) : Option (RS) :=
  if ib x1 1000 then (if (σ.a 65 ((x1 : Int32).toNatClampNeg)) = 0 then (f_X12_next N (RS.setA σ 71 ((x1 : Int32).toNatClampNeg) (σ.i 38))).bind fun p3 => (f_X12_open N p3 40).bind fun p5 => (f_X12_forHead N p5.2 x1).bind fun p7 => some p7 else (if (σ.a 65 ((x1 : Int32).toNatClampNeg)) = 1 then (f_X12_see N σ (σ.b 74 ((x1 : Int32).toNatClampNeg)) 0).bind fun p10 => (f_X12_emit N p10.2 5 p10.1).bind fun p12 => some (RS.setA p12.2 65 ((x1 : Int32).toNatClampNeg) 3) else (if (σ.a 65 ((x1 : Int32).toNatClampNeg)) = 2 then (f_X12_emit N σ 5 (σ.a 66 ((x1 : Int32).toNatClampNeg))).bind fun p15 => some (RS.setA p15.2 65 ((x1 : Int32).toNatClampNeg) 3) else (if (σ.a 65 ((x1 : Int32).toNatClampNeg)) = 3 then (f_X12_need N σ 59).bind fun p18 => (if (p18.2.i 10) = 432 then f_X12_fors_175 N (RS.setA (RS.setA p18.2 66 ((x1 : Int32).toNatClampNeg) (p18.2.i 20)) 69 ((x1 : Int32).toNatClampNeg) (p18.2.i 17)) x1 else f_X12_fors_175 N (RS.setA (RS.setA p18.2 66 ((x1 : Int32).toNatClampNeg) (p18.2.i 20)) 69 ((x1 : Int32).toNatClampNeg) 0) x1) else (if (σ.a 65 ((x1 : Int32).toNatClampNeg)) = 4 then (f_X12_isJustTrue N σ (σ.a 69 ((x1 : Int32).toNatClampNeg))).bind fun p31 => (if p31.1 = 0 then f_X12_fors_255 N (RS.setA p31.2 72 ((x1 : Int32).toNatClampNeg) 0) x1 else f_X12_fors_255 N (RS.setA p31.2 72 ((x1 : Int32).toNatClampNeg) 1) x1) else (if (σ.a 65 ((x1 : Int32).toNatClampNeg)) = 5 then (f_X12_forBehind N σ x1).bind fun p36 => some p36 else (if (σ.a 65 ((x1 : Int32).toNatClampNeg)) = 6 then (f_X12_emit N σ 5 (σ.a 73 ((x1 : Int32).toNatClampNeg))).bind fun p39 => some (RS.setA p39.2 65 ((x1 : Int32).toNatClampNeg) 7) else (if (σ.a 65 ((x1 : Int32).toNatClampNeg)) = 7 then (f_X12_emit N σ 15 (σ.a 66 ((x1 : Int32).toNatClampNeg))).bind fun p42 => (f_X12_shut N p42.2 41).bind fun p44 => if ib (p44.2.a 68 ((x1 : Int32).toNatClampNeg)) 3000 then (f_X12_emit N (RS.setA p44.2 22 (((p44.2.a 68 ((x1 : Int32).toNatClampNeg)) : Int32).toNatClampNeg) (p44.2.i 20)) 1 0).bind fun p47 => (f_X12_loopGoal N p47.2).bind fun p49 => (f_X12_body N (RS.setA p49.2 73 ((x1 : Int32).toNatClampNeg) p49.1) 8).bind fun p51 => some p51 else none else (if (σ.a 65 ((x1 : Int32).toNatClampNeg)) = 8 then if ib (σ.a 73 ((x1 : Int32).toNatClampNeg)) 460 then (f_X12_patch N σ (σ.a 49 (((σ.a 73 ((x1 : Int32).toNatClampNeg)) : Int32).toNatClampNeg)) (σ.a 70 ((x1 : Int32).toNatClampNeg))).bind fun p55 => (f_X12_emit N p55 15 (p55.a 70 ((x1 : Int32).toNatClampNeg))).bind fun p57 => if ib (p57.2.a 67 ((x1 : Int32).toNatClampNeg)) 3000 then (f_X12_patch N (RS.setA p57.2 22 (((p57.2.a 67 ((x1 : Int32).toNatClampNeg)) : Int32).toNatClampNeg) (p57.2.i 20)) (p57.2.a 48 (((σ.a 73 ((x1 : Int32).toNatClampNeg)) : Int32).toNatClampNeg)) (p57.2.i 20)).bind fun p60 => (if (p60.a 72 ((x1 : Int32).toNatClampNeg)) = 0 then (f_X12_over N (RS.setI (RS.setI p60 43 ((p60.i 43) - 1)) 38 (p60.a 71 ((x1 : Int32).toNatClampNeg))) 1).bind fun p63 => f_X12_fors_469 N p63 else (if (p60.a 50 (((σ.a 73 ((x1 : Int32).toNatClampNeg)) : Int32).toNatClampNeg)) = 0 then (f_X12_over N (RS.setI (RS.setI p60 43 ((p60.i 43) - 1)) 38 (p60.a 71 ((x1 : Int32).toNatClampNeg))) 0).bind fun p66 => f_X12_fors_469 N p66 else (f_X12_over N (RS.setI (RS.setI p60 43 ((p60.i 43) - 1)) 38 (p60.a 71 ((x1 : Int32).toNatClampNeg))) 1).bind fun p68 => f_X12_fors_469 N p68)) else none else none else (f_X12_rows N σ x1).bind fun p70 => some p70))))))))) else none
def f_X12_lock_94 (N : Nat) (σ : RS) : Option (RS) :=
  (f_X12_shut N σ 41).bind fun p13 => (f_X12_then N (RS.setI p13.2 52 ((p13.2.i 52) + 1)) 1 3).bind fun p15 => some p15
def f_X12_lock_90 (N : Nat) (σ : RS) : Option (RS) :=
  (f_X12_next N σ).bind fun p21 => f_X12_lock_94 N p21
def f_X12_lock_50 (N : Nat) (σ : RS) : Option (RS) :=
  (if (σ.i 10) = 434 then (f_X12_emit N σ 20 1).bind fun p24 => f_X12_lock_90 N p24.2 else (f_X12_emit N σ 26 (σ.i 14)).bind fun p19 => f_X12_lock_90 N p19.2)
def f_X12_lock (N : Nat) (σ : RS) (x1 : Int32) : Option (RS) :=
  if ib x1 1000 then (if (σ.a 65 ((x1 : Int32).toNatClampNeg)) = 0 then (f_X12_next N σ).bind fun p5 => (f_X12_open N p5 40).bind fun p7 => (if (p7.2.i 10) = 3 then (f_X12_can N p7.2 1).bind fun p10 => (if p10.1 = 0 then f_X12_lock_94 N p10.2 else f_X12_lock_50 N p10.2) else (if (p7.2.i 10) = 434 then (f_X12_can N p7.2 1).bind fun p30 => (if p30.1 = 0 then f_X12_lock_94 N p30.2 else f_X12_lock_50 N p30.2) else (f_X12_can N p7.2 0).bind fun p27 => (if p27.1 = 0 then f_X12_lock_94 N p27.2 else f_X12_lock_50 N p27.2))) else (f_X12_emit N σ 27 0).bind fun p3 => some (RS.setI (RS.setI p3.2 52 ((p3.2.i 52) - 1)) 63 ((p3.2.i 63) - 1))) else none
def f_X12_entry_85 (N : Nat) (σ : RS) (x1 : Int32) : Option (RS) :=
  if ib x1 1000 then some (RS.setI (RS.setA σ 67 ((x1 : Int32).toNatClampNeg) (σ.i 24)) 24 ((σ.i 24) + 1)) else none
def f_X12_entry (N : Nat) (σ : RS) (x1 : Int32) (x2 : Int32) (x3 : Int32) : Option (RS) :=
  if ib (σ.i 24) 500 then if ib x1 1000 then (if 0 ≤ (σ.a 67 ((x1 : Int32).toNatClampNeg)) then if ib (σ.a 67 ((x1 : Int32).toNatClampNeg)) 500 then f_X12_entry_85 N (RS.setA (RS.setA (RS.setA (RS.setA (RS.setA σ 25 (((σ.i 24) : Int32).toNatClampNeg) x2) 26 (((σ.i 24) : Int32).toNatClampNeg) (σ.i 20)) 27 (((σ.i 24) : Int32).toNatClampNeg) (-1)) 28 (((σ.i 24) : Int32).toNatClampNeg) (vp_nar .boolean x3)) 27 (((σ.a 67 ((x1 : Int32).toNatClampNeg)) : Int32).toNatClampNeg) (σ.i 24)) x1 else none else if ib (σ.a 66 ((x1 : Int32).toNatClampNeg)) 3000 then f_X12_entry_85 N (RS.setA (RS.setA (RS.setA (RS.setA (RS.setA σ 25 (((σ.i 24) : Int32).toNatClampNeg) x2) 26 (((σ.i 24) : Int32).toNatClampNeg) (σ.i 20)) 27 (((σ.i 24) : Int32).toNatClampNeg) (-1)) 28 (((σ.i 24) : Int32).toNatClampNeg) (vp_nar .boolean x3)) 22 (((σ.a 66 ((x1 : Int32).toNatClampNeg)) : Int32).toNatClampNeg) (σ.i 24)) x1 else none) else none else none
def f_X12_caseNumber_140 (N : Nat) (σ : RS) : Option (Int32 × RS) :=
  (if (σ.i 15) = 0 then some (1, σ) else some (0, σ))
def b_X12_caseNumber_75 (N : Nat) (K : RS → Int32 → Int32 → Int32 → Option (Int32 × RS)) (σ : RS) (x1 : Int32) (x3 : Int32) (x4 : Int32) : Option (Int32 × RS) :=
  (if x4 < 0 then (if (σ.i 15) = 0 then (f_X12_entry N σ x1 x3 0).bind fun p13 => (f_X12_next N p13).bind fun p15 => f_X12_caseNumber_140 N p15 else f_X12_caseNumber_140 N σ) else if ib x4 500 then (if (σ.a 28 ((x4 : Int32).toNatClampNeg)) = 0 then (if (σ.a 25 ((x4 : Int32).toNatClampNeg)) = x3 then (f_X12_fail N σ 4 (σ.i 11)).bind fun p20 => K p20 x1 x3 (p20.a 27 ((x4 : Int32).toNatClampNeg)) else K σ x1 x3 (σ.a 27 ((x4 : Int32).toNatClampNeg))) else K σ x1 x3 (σ.a 27 ((x4 : Int32).toNatClampNeg))) else none)
def f_X12_caseNumber_75 (N : Nat) : Nat → RS → Int32 → Int32 → Int32 → Option (Int32 × RS)
  | 0 => fun _ _ _ _ => none
  | n+1 => b_X12_caseNumber_75 N (f_X12_caseNumber_75 N n)
def f_X12_caseNumber_62 (N : Nat) (σ : RS) (x1 : Int32) (x3 : Int32) : Option (Int32 × RS) :=
  if ib x1 1000 then if ib (σ.a 66 ((x1 : Int32).toNatClampNeg)) 3000 then f_X12_caseNumber_75 N N σ x1 x3 (σ.a 22 (((σ.a 66 ((x1 : Int32).toNatClampNeg)) : Int32).toNatClampNeg)) else none else none
def f_X12_caseNumber_45 (N : Nat) (σ : RS) (x1 : Int32) (x2 : Int32) : Option (Int32 × RS) :=
  (if x2 = 0 then f_X12_caseNumber_62 N σ x1 (σ.i 14) else f_X12_caseNumber_62 N σ x1 (-(σ.i 14)))
def f_X12_caseNumber_43 (N : Nat) (σ : RS) : Option (Int32 × RS) :=
  some (0, σ)
def f_X12_caseNumber_23 (N : Nat) (σ : RS) (x1 : Int32) (x2 : Int32) : Option (Int32 × RS) :=
  (if (σ.i 10) = 1 then (f_X12_can N σ 1).bind fun p22 => (if p22.1 = 0 then f_X12_caseNumber_43 N p22.2 else f_X12_caseNumber_45 N p22.2 x1 x2) else (f_X12_can N σ 0).bind fun p4 => (if p4.1 = 0 then f_X12_caseNumber_43 N p4.2 else f_X12_caseNumber_45 N p4.2 x1 x2))
def f_X12_caseNumber_15 (N : Nat) (σ : RS) (x1 : Int32) (x2 : Int32) : Option (Int32 × RS) :=
  (if x2 = 0 then f_X12_caseNumber_23 N σ x1 x2 else (f_X12_next N σ).bind fun p25 => f_X12_caseNumber_23 N p25 x1 x2)
def f_X12_caseNumber (N : Nat) (σ : RS) (x1 : Int32) : Option (Int32 × RS) :=
  (if (σ.i 10) = 45 then f_X12_caseNumber_15 N σ x1 1 else f_X12_caseNumber_15 N σ x1 0)
def f_X12_groups_335 (N : Nat) (σ : RS) : Option (RS) :=
  some σ
def f_X12_groups_356 (N : Nat) (σ : RS) (x1 : Int32) : Option (RS) :=
  if ib x1 1000 then some (RS.setA σ 65 ((x1 : Int32).toNatClampNeg) 2) else none
def f_X12_groups (N : Nat) (σ : RS) (x1 : Int32) : Option (RS) :=
  if ib x1 1000 then (if (σ.a 65 ((x1 : Int32).toNatClampNeg)) = 0 then (f_X12_next N σ).bind fun p3 => (f_X12_open N p3 40).bind fun p5 => (f_X12_then N p5.2 1 16).bind fun p7 => some p7 else (if (σ.a 65 ((x1 : Int32).toNatClampNeg)) = 1 then (f_X12_shut N σ 41).bind fun p10 => (f_X12_emit N p10.2 28 (-1)).bind fun p12 => (f_X12_goal N (RS.setA (RS.setA (RS.setA (RS.setA (RS.setA p12.2 66 ((x1 : Int32).toNatClampNeg) p12.1) 67 ((x1 : Int32).toNatClampNeg) (-1)) 68 ((x1 : Int32).toNatClampNeg) 0) 70 ((x1 : Int32).toNatClampNeg) 1) 71 ((x1 : Int32).toNatClampNeg) (p12.2.i 38)) 1 0).bind fun p14 => (f_X12_open N (RS.setA p14.2 72 ((x1 : Int32).toNatClampNeg) p14.1) 123).bind fun p16 => some (RS.setA p16.2 65 ((x1 : Int32).toNatClampNeg) 2) else (if (σ.a 65 ((x1 : Int32).toNatClampNeg)) = 2 then (if (σ.i 10) = 429 then (f_X12_next N σ).bind fun p49 => (f_X12_caseNumber N p49 x1).bind fun p51 => (if p51.1 = 0 then some p51.2 else (f_X12_need N p51.2 58).bind fun p54 => (f_X12_then N p54.2 3 1).bind fun p56 => some p56) else (if (σ.i 10) = 430 then (if (σ.a 68 ((x1 : Int32).toNatClampNeg)) = 1 then (f_X12_fail N σ 4 (σ.i 11)).bind fun p47 => some p47 else (f_X12_entry N (RS.setA σ 68 ((x1 : Int32).toNatClampNeg) 1) x1 0 1).bind fun p39 => (f_X12_next N p39).bind fun p41 => (f_X12_need N p41 58).bind fun p43 => (f_X12_then N p43.2 3 1).bind fun p45 => some p45) else (f_X12_shut N σ 125).bind fun p21 => if ib (p21.2.a 66 ((x1 : Int32).toNatClampNeg)) 3000 then if ib (p21.2.a 72 ((x1 : Int32).toNatClampNeg)) 460 then (f_X12_patch N (RS.setA p21.2 23 (((p21.2.a 66 ((x1 : Int32).toNatClampNeg)) : Int32).toNatClampNeg) (p21.2.i 20)) (p21.2.a 48 (((p21.2.a 72 ((x1 : Int32).toNatClampNeg)) : Int32).toNatClampNeg)) (p21.2.i 20)).bind fun p25 => (if (p25.a 70 ((x1 : Int32).toNatClampNeg)) = 1 then (f_X12_over N (RS.setI (RS.setI p25 43 ((p25.i 43) - 1)) 38 (p25.a 71 ((x1 : Int32).toNatClampNeg))) 1).bind fun p28 => f_X12_groups_335 N p28 else (if (p25.a 68 ((x1 : Int32).toNatClampNeg)) = 0 then (f_X12_over N (RS.setI (RS.setI p25 43 ((p25.i 43) - 1)) 38 (p25.a 71 ((x1 : Int32).toNatClampNeg))) 1).bind fun p31 => f_X12_groups_335 N p31 else (if (p25.a 50 (((p21.2.a 72 ((x1 : Int32).toNatClampNeg)) : Int32).toNatClampNeg)) = 0 then (f_X12_over N (RS.setI (RS.setI p25 43 ((p25.i 43) - 1)) 38 (p25.a 71 ((x1 : Int32).toNatClampNeg))) 0).bind fun p34 => f_X12_groups_335 N p34 else (f_X12_over N (RS.setI (RS.setI p25 43 ((p25.i 43) - 1)) 38 (p25.a 71 ((x1 : Int32).toNatClampNeg))) 1).bind fun p36 => f_X12_groups_335 N p36))) else none else none)) else (if (σ.i 75) = 0 then f_X12_groups_356 N (RS.setA σ 70 ((x1 : Int32).toNatClampNeg) 0) x1 else f_X12_groups_356 N (RS.setA σ 70 ((x1 : Int32).toNatClampNeg) 1) x1)))) else none
def b_X12_catching_323 (N : Nat) (K : RS → Int32 → Int32 → Option (RS)) (σ : RS) (x4 : Int32) (x5 : Int32) : Option (RS) :=
  (if (σ.i 33) ≤ x5 then (f_X12_then N σ 3 3).bind fun p20 => some p20 else if ib x5 400 then K (RS.setA (RS.setA σ 35 ((x5 : Int32).toNatClampNeg) (σ.i 20)) 36 ((x5 : Int32).toNatClampNeg) x4) x4 (x5 + 1) else none)
def f_X12_catching_323 (N : Nat) : Nat → RS → Int32 → Int32 → Option (RS)
  | 0 => fun _ _ _ => none
  | n+1 => b_X12_catching_323 N (f_X12_catching_323 N n)
def f_X12_catching_277 (N : Nat) (σ : RS) (x2 : Int32) : Option (RS) :=
  (f_X12_seenAs N σ σ.l).bind fun p10 => (if p10.1 < 0 then (f_X12_see N p10.2 p10.2.l 1).bind fun p13 => (f_X12_next N p13.2).bind fun p15 => (f_X12_shut N p15 41).bind fun p17 => f_X12_catching_323 N N p17.2 p13.1 x2 else (f_X12_fail N p10.2 4 (p10.2.i 11)).bind fun p23 => some p23)
def f_X12_catching_256 (N : Nat) (σ : RS) (x2 : Int32) : Option (RS) :=
  (if (σ.i 10) = 2 then (f_X12_can N σ 1).bind fun p25 => (if p25.1 = 0 then some p25.2 else f_X12_catching_277 N p25.2 x2) else (f_X12_can N σ 0).bind fun p7 => (if p7.1 = 0 then some p7.2 else f_X12_catching_277 N p7.2 x2))
def b_X12_catching_82 (N : Nat) (K18 : RS → Int32 → Int32 → Int32 → Option (RS)) (K : RS → Int32 → Int32 → Int32 → Option (RS)) (σ : RS) (x1 : Int32) (x2 : Int32) (x4 : Int32) : Option (RS) :=
  (if x4 < 0 then if ib (σ.i 33) 400 then if ib x1 1000 then (if 0 ≤ (σ.a 72 ((x1 : Int32).toNatClampNeg)) then if ib (σ.a 72 ((x1 : Int32).toNatClampNeg)) 400 then (f_X12_next N (RS.setI (RS.setA (RS.setA (RS.setA (RS.setA σ 34 (((σ.i 33) : Int32).toNatClampNeg) (σ.i 14)) 37 (((σ.i 33) : Int32).toNatClampNeg) (-1)) 37 (((σ.a 72 ((x1 : Int32).toNatClampNeg)) : Int32).toNatClampNeg) (σ.i 33)) 72 ((x1 : Int32).toNatClampNeg) (σ.i 33)) 33 ((σ.i 33) + 1))).bind fun p41 => (if (p41.i 15) = 0 then (if (p41.i 10) = 124 then (f_X12_next N p41).bind fun p45 => K18 p45 x1 x2 1 else K18 p41 x1 x2 0) else K18 p41 x1 x2 0) else none else if ib (σ.a 66 ((x1 : Int32).toNatClampNeg)) 200 then (f_X12_next N (RS.setI (RS.setA (RS.setA (RS.setA (RS.setA σ 34 (((σ.i 33) : Int32).toNatClampNeg) (σ.i 14)) 37 (((σ.i 33) : Int32).toNatClampNeg) (-1)) 30 (((σ.a 66 ((x1 : Int32).toNatClampNeg)) : Int32).toNatClampNeg) (σ.i 33)) 72 ((x1 : Int32).toNatClampNeg) (σ.i 33)) 33 ((σ.i 33) + 1))).bind fun p48 => (if (p48.i 15) = 0 then (if (p48.i 10) = 124 then (f_X12_next N p48).bind fun p52 => K18 p52 x1 x2 1 else K18 p48 x1 x2 0) else K18 p48 x1 x2 0) else none) else none else none else (if (σ.i 15) = 0 then if ib x4 400 then (f_X12_isUnder N σ (σ.i 14) (σ.a 34 ((x4 : Int32).toNatClampNeg))).bind fun p73 => (if p73.1 = 0 then K p73.2 x1 x2 (p73.2.a 37 ((x4 : Int32).toNatClampNeg)) else (f_X12_fail N p73.2 6 (p73.2.i 11)).bind fun p76 => K p76 x1 x2 (p76.a 37 ((x4 : Int32).toNatClampNeg))) else none else if ib (σ.i 33) 400 then if ib x1 1000 then (if 0 ≤ (σ.a 72 ((x1 : Int32).toNatClampNeg)) then if ib (σ.a 72 ((x1 : Int32).toNatClampNeg)) 400 then (f_X12_next N (RS.setI (RS.setA (RS.setA (RS.setA (RS.setA σ 34 (((σ.i 33) : Int32).toNatClampNeg) (σ.i 14)) 37 (((σ.i 33) : Int32).toNatClampNeg) (-1)) 37 (((σ.a 72 ((x1 : Int32).toNatClampNeg)) : Int32).toNatClampNeg) (σ.i 33)) 72 ((x1 : Int32).toNatClampNeg) (σ.i 33)) 33 ((σ.i 33) + 1))).bind fun p59 => (if (p59.i 15) = 0 then (if (p59.i 10) = 124 then (f_X12_next N p59).bind fun p63 => K18 p63 x1 x2 1 else K18 p59 x1 x2 0) else K18 p59 x1 x2 0) else none else if ib (σ.a 66 ((x1 : Int32).toNatClampNeg)) 200 then (f_X12_next N (RS.setI (RS.setA (RS.setA (RS.setA (RS.setA σ 34 (((σ.i 33) : Int32).toNatClampNeg) (σ.i 14)) 37 (((σ.i 33) : Int32).toNatClampNeg) (-1)) 30 (((σ.a 66 ((x1 : Int32).toNatClampNeg)) : Int32).toNatClampNeg) (σ.i 33)) 72 ((x1 : Int32).toNatClampNeg) (σ.i 33)) 33 ((σ.i 33) + 1))).bind fun p66 => (if (p66.i 15) = 0 then (if (p66.i 10) = 124 then (f_X12_next N p66).bind fun p70 => K18 p70 x1 x2 1 else K18 p66 x1 x2 0) else K18 p66 x1 x2 0) else none) else none else none))
def f_X12_catching_82 (N : Nat) (K18 : RS → Int32 → Int32 → Int32 → Option (RS)) : Nat → RS → Int32 → Int32 → Int32 → Option (RS)
  | 0 => fun _ _ _ _ => none
  | n+1 => b_X12_catching_82 N K18 (f_X12_catching_82 N K18 n)
def b_X12_catching_18 (N : Nat) (K : RS → Int32 → Int32 → Int32 → Option (RS)) (σ : RS) (x1 : Int32) (x2 : Int32) (x3 : Int32) : Option (RS) :=
  (if x3 = 0 then f_X12_catching_256 N σ x2 else (if (σ.i 15) = 0 then (if (σ.i 10) = 5 then (f_X12_can N σ 1).bind fun p82 => (if p82.1 = 0 then K p82.2 x1 x2 x3 else (if (p82.2.i 14) < (p82.2.i 3) then if ib x1 1000 then if ib (p82.2.a 66 ((x1 : Int32).toNatClampNeg)) 200 then f_X12_catching_82 N K N p82.2 x1 x2 (p82.2.a 30 (((p82.2.a 66 ((x1 : Int32).toNatClampNeg)) : Int32).toNatClampNeg)) else none else none else (f_X12_fail N p82.2 3 (p82.2.i 11)).bind fun p88 => if ib x1 1000 then if ib (p88.a 66 ((x1 : Int32).toNatClampNeg)) 200 then f_X12_catching_82 N K N p88 x1 x2 (p88.a 30 (((p88.a 66 ((x1 : Int32).toNatClampNeg)) : Int32).toNatClampNeg)) else none else none)) else (f_X12_can N σ 0).bind fun p30 => (if p30.1 = 0 then K p30.2 x1 x2 x3 else (if (p30.2.i 14) < (p30.2.i 3) then if ib x1 1000 then if ib (p30.2.a 66 ((x1 : Int32).toNatClampNeg)) 200 then f_X12_catching_82 N K N p30.2 x1 x2 (p30.2.a 30 (((p30.2.a 66 ((x1 : Int32).toNatClampNeg)) : Int32).toNatClampNeg)) else none else none else (f_X12_fail N p30.2 3 (p30.2.i 11)).bind fun p78 => if ib x1 1000 then if ib (p78.a 66 ((x1 : Int32).toNatClampNeg)) 200 then f_X12_catching_82 N K N p78 x1 x2 (p78.a 30 (((p78.a 66 ((x1 : Int32).toNatClampNeg)) : Int32).toNatClampNeg)) else none else none))) else f_X12_catching_256 N σ x2))
def f_X12_catching_18 (N : Nat) : Nat → RS → Int32 → Int32 → Int32 → Option (RS)
  | 0 => fun _ _ _ _ => none
  | n+1 => b_X12_catching_18 N (f_X12_catching_18 N n)
def f_X12_catching (N : Nat) (σ : RS) (x1 : Int32) : Option (RS) :=
  (f_X12_next N σ).bind fun p1 => (f_X12_open N p1 40).bind fun p3 => f_X12_catching_18 N N p3.2 x1 (σ.i 33) 1
def f_X12_endTry (N : Nat) (σ : RS) (x1 : Int32) (x2 : Int32) : Option (RS) :=
  if ib x1 1000 then if ib (σ.a 66 ((x1 : Int32).toNatClampNeg)) 200 then (f_X12_resolve N (RS.setA (RS.setI σ 52 ((σ.i 52) - 1)) 32 (((σ.a 66 ((x1 : Int32).toNatClampNeg)) : Int32).toNatClampNeg) (σ.i 20)) (σ.a 66 ((x1 : Int32).toNatClampNeg)) x2).bind fun p3 => (if x2 = 0 then (f_X12_over N p3 0).bind fun p6 => some p6 else (if (p3.a 68 ((x1 : Int32).toNatClampNeg)) = 1 then (f_X12_over N p3 1).bind fun p11 => some p11 else (f_X12_over N p3 0).bind fun p9 => some p9)) else none else none
def f_X12_trying_215 (N : Nat) (σ : RS) (x1 : Int32) : Option (RS) :=
  if ib x1 1000 then if ib (σ.i 56) 40 then (f_X12_then N (RS.setA (RS.setI (RS.setA (RS.setA σ 57 (((σ.i 56) : Int32).toNatClampNeg) (σ.a 66 ((x1 : Int32).toNatClampNeg))) 58 (((σ.i 56) : Int32).toNatClampNeg) (σ.i 43)) 56 ((σ.i 56) + 1)) 72 ((x1 : Int32).toNatClampNeg) (-1)) 1 3).bind fun p13 => some p13 else none else none
def b_X12_trying_140 (N : Nat) (K : RS → Int32 → Int32 → Option (RS)) (σ : RS) (x1 : Int32) (x2 : Int32) : Option (RS) :=
  (if x2 = 0 then f_X12_trying_215 N σ x1 else (if (σ.i 15) = 0 then (f_X12_next N σ).bind fun p16 => (if (p16.i 10) = 4 then (f_X12_can N p16 1).bind fun p30 => (if p30.1 = 0 then (if (p30.2.i 15) = 0 then (if (p30.2.i 10) = 44 then K p30.2 x1 1 else K p30.2 x1 0) else K p30.2 x1 0) else (f_X12_emit N p30.2 32 (p30.2.i 14)).bind fun p35 => (f_X12_next N p35.2).bind fun p37 => (if (p37.i 15) = 0 then (if (p37.i 10) = 44 then K p37 x1 1 else K p37 x1 0) else K p37 x1 0)) else (f_X12_can N p16 0).bind fun p19 => (if p19.1 = 0 then (if (p19.2.i 15) = 0 then (if (p19.2.i 10) = 44 then K p19.2 x1 1 else K p19.2 x1 0) else K p19.2 x1 0) else (f_X12_emit N p19.2 32 (p19.2.i 14)).bind fun p24 => (f_X12_next N p24.2).bind fun p26 => (if (p26.i 15) = 0 then (if (p26.i 10) = 44 then K p26 x1 1 else K p26 x1 0) else K p26 x1 0))) else f_X12_trying_215 N σ x1))
def f_X12_trying_140 (N : Nat) : Nat → RS → Int32 → Int32 → Option (RS)
  | 0 => fun _ _ _ => none
  | n+1 => b_X12_trying_140 N (f_X12_trying_140 N n)
def f_X12_trying_124 (N : Nat) (σ : RS) (x1 : Int32) : Option (RS) :=
  (if (σ.i 10) = 424 then f_X12_trying_140 N N σ x1 1 else f_X12_trying_140 N N σ x1 0)
def f_X12_trying_287 (N : Nat) (σ : RS) (x1 : Int32) : Option (RS) :=
  if ib x1 1000 then (f_X12_emit N σ 33 (σ.a 66 ((x1 : Int32).toNatClampNeg))).bind fun p44 => some (RS.setA p44.2 65 ((x1 : Int32).toNatClampNeg) 2) else none
def f_X12_trying_417 (N : Nat) (σ : RS) (x1 : Int32) : Option (RS) :=
  (f_X12_endTry N (RS.setI σ 56 ((σ.i 56) - 1)) x1 1).bind fun p53 => some p53
def f_X12_trying_464 (N : Nat) (σ : RS) (x1 : Int32) : Option (RS) :=
  if ib x1 1000 then (f_X12_emit N σ 34 (σ.a 66 ((x1 : Int32).toNatClampNeg))).bind fun p72 => some (RS.setA (RS.setI p72.2 38 (p72.2.a 71 ((x1 : Int32).toNatClampNeg))) 65 ((x1 : Int32).toNatClampNeg) 2) else none
def f_X12_trying (N : Nat) (σ : RS) (x1 : Int32) : Option (RS) :=
  if ib x1 1000 then (if (σ.a 65 ((x1 : Int32).toNatClampNeg)) = 0 then (f_X12_next N σ).bind fun p3 => if ib (p3.i 29) 200 then (f_X12_emit N (RS.setI (RS.setA (RS.setA (RS.setA p3 66 ((x1 : Int32).toNatClampNeg) (p3.i 29)) 30 (((p3.i 29) : Int32).toNatClampNeg) (-1)) 31 (((p3.i 29) : Int32).toNatClampNeg) (-1)) 29 ((p3.i 29) + 1)) 31 ((upd (p3.a 66) ((x1 : Int32).toNatClampNeg) (p3.i 29)) ((x1 : Int32).toNatClampNeg))).bind fun p6 => (if (p6.2.i 10) = 424 then f_X12_trying_124 N (RS.setA (RS.setI p6.2 52 ((p6.2.i 52) + 1)) 67 ((x1 : Int32).toNatClampNeg) 1) x1 else f_X12_trying_124 N (RS.setA (RS.setI p6.2 52 ((p6.2.i 52) + 1)) 67 ((x1 : Int32).toNatClampNeg) 0) x1) else none else (if (σ.a 65 ((x1 : Int32).toNatClampNeg)) = 1 then (if (σ.i 75) = 0 then f_X12_trying_287 N (RS.setA σ 68 ((x1 : Int32).toNatClampNeg) 0) x1 else f_X12_trying_287 N (RS.setA σ 68 ((x1 : Int32).toNatClampNeg) 1) x1) else (if (σ.a 65 ((x1 : Int32).toNatClampNeg)) = 2 then (if (σ.i 10) = 425 then (f_X12_catching N (RS.setA σ 71 ((x1 : Int32).toNatClampNeg) (σ.i 38)) x1).bind fun p67 => some p67 else (if (σ.i 10) = 426 then (f_X12_next N (RS.setI σ 56 ((σ.i 56) - 1))).bind fun p62 => if ib (p62.a 66 ((x1 : Int32).toNatClampNeg)) 200 then (f_X12_then N (RS.setA p62 31 (((p62.a 66 ((x1 : Int32).toNatClampNeg)) : Int32).toNatClampNeg) (p62.i 20)) 4 3).bind fun p65 => some p65 else none else (if (σ.a 67 ((x1 : Int32).toNatClampNeg)) = 1 then (f_X12_can N σ 1).bind fun p50 => (if p50.1 = 0 then some p50.2 else f_X12_trying_417 N p50.2 x1) else (if (σ.a 72 ((x1 : Int32).toNatClampNeg)) < 0 then (f_X12_can N σ 0).bind fun p56 => (if p56.1 = 0 then some p56.2 else f_X12_trying_417 N p56.2 x1) else (f_X12_can N σ 1).bind fun p59 => (if p59.1 = 0 then some p59.2 else f_X12_trying_417 N p59.2 x1))))) else (if (σ.a 65 ((x1 : Int32).toNatClampNeg)) = 3 then (if (σ.i 75) = 0 then (if (σ.a 68 ((x1 : Int32).toNatClampNeg)) = 1 then f_X12_trying_464 N (RS.setA σ 68 ((x1 : Int32).toNatClampNeg) 1) x1 else f_X12_trying_464 N (RS.setA σ 68 ((x1 : Int32).toNatClampNeg) 0) x1) else f_X12_trying_464 N (RS.setA σ 68 ((x1 : Int32).toNatClampNeg) 1) x1) else (f_X12_emit N σ 35 (σ.a 66 ((x1 : Int32).toNatClampNeg))).bind fun p75 => (f_X12_endTry N p75.2 x1 (p75.2.i 75)).bind fun p77 => some p77)))) else none
def f_X12_sums_39 (N : Nat) (σ : RS) (x1 : Int32) (x2 : Int32) (x3 : Int32) : Option (RS) :=
  (if x3 = 0 then some (RS.setI σ 63 ((σ.i 63) - 1)) else if ib x1 1000 then (f_X12_next N (RS.setA σ 66 ((x1 : Int32).toNatClampNeg) (σ.i 10))).bind fun p6 => (f_X12_then N p6 2 x2).bind fun p8 => some p8 else none)
def f_X12_sums (N : Nat) (σ : RS) (x1 : Int32) (x2 : Int32) (x3 : Int32) : Option (RS) :=
  if ib x1 1000 then (if (σ.a 65 ((x1 : Int32).toNatClampNeg)) = 0 then (f_X12_then N σ 1 x2).bind fun p12 => some p12 else (if (σ.a 65 ((x1 : Int32).toNatClampNeg)) = 2 then (f_X12_emit N σ 8 (σ.a 66 ((x1 : Int32).toNatClampNeg))).bind fun p10 => f_X12_sums_39 N p10.2 x1 x2 x3 else f_X12_sums_39 N σ x1 x2 x3)) else none
def f_X12_factor_215 (N : Nat) (σ : RS) : Option (RS) :=
  (f_X12_next N σ).bind fun p31 => some (RS.setI p31 63 ((p31.i 63) - 1))
def f_X12_factor_124 (N : Nat) (σ : RS) (x1 : Int32) : Option (RS) :=
  (if (σ.i 10) = 1 then (f_X12_emit N σ 2 (σ.i 14)).bind fun p37 => (f_X12_next N p37.2).bind fun p39 => some (RS.setI p39 63 ((p39.i 63) - 1)) else (if (σ.i 10) = 2 then (f_X12_seenAs N σ σ.l).bind fun p24 => (if 0 ≤ p24.1 then if ib p24.1 460 then (if (p24.2.a 41 ((p24.1 : Int32).toNatClampNeg)) = 0 then (f_X12_emit N p24.2 3 (p24.2.a 40 ((p24.1 : Int32).toNatClampNeg))).bind fun p29 => f_X12_factor_215 N p29.2 else (f_X12_emit N p24.2 4 (p24.2.a 40 ((p24.1 : Int32).toNatClampNeg))).bind fun p33 => f_X12_factor_215 N p33.2) else none else (f_X12_fail N p24.2 3 (p24.2.i 11)).bind fun p35 => some p35) else (if (σ.i 10) = 45 then (f_X12_opens N σ).bind fun p17 => (if p17.1 = 0 then some p17.2 else (f_X12_next N p17.2).bind fun p20 => (f_X12_then N p20 1 18).bind fun p22 => some p22) else (if (σ.i 10) = 40 then (f_X12_open N σ 40).bind fun p13 => (f_X12_then N p13.2 2 16).bind fun p15 => some p15 else if ib x1 1000 then some (RS.setA σ 64 ((x1 : Int32).toNatClampNeg) 19) else none))))
def f_X12_factor (N : Nat) (σ : RS) (x1 : Int32) : Option (RS) :=
  if ib x1 1000 then (if (σ.a 65 ((x1 : Int32).toNatClampNeg)) = 1 then (f_X12_emit N (RS.setI σ 19 ((σ.i 19) - 1)) 7 0).bind fun p62 => some (RS.setI p62.2 63 ((p62.2.i 63) - 1)) else (if (σ.a 65 ((x1 : Int32).toNatClampNeg)) = 2 then (f_X12_shut N σ 41).bind fun p60 => some (RS.setI p60.2 63 ((p60.2.i 63) - 1)) else (if (σ.i 10) = 1 then (f_X12_can N σ 1).bind fun p5 => (if p5.1 = 0 then some p5.2 else f_X12_factor_124 N p5.2 x1) else (if (σ.i 10) = 2 then (f_X12_can N σ 1).bind fun p42 => (if p42.1 = 0 then some p42.2 else f_X12_factor_124 N p42.2 x1) else (if (σ.i 10) = 45 then (f_X12_can N σ 1).bind fun p46 => (if p46.1 = 0 then some p46.2 else f_X12_factor_124 N p46.2 x1) else (if (σ.i 10) = 40 then (f_X12_can N σ 1).bind fun p50 => (if p50.1 = 0 then some p50.2 else f_X12_factor_124 N p50.2 x1) else (if (σ.i 10) = 428 then (f_X12_can N σ 1).bind fun p57 => (if p57.1 = 0 then some p57.2 else f_X12_factor_124 N p57.2 x1) else (f_X12_can N σ 0).bind fun p54 => (if p54.1 = 0 then some p54.2 else f_X12_factor_124 N p54.2 x1)))))))) else none
def f_X12_arms_250 (N : Nat) (σ : RS) (x1 : Int32) : Option (RS) :=
  (f_X12_shut N σ 125).bind fun p25 => if ib x1 1000 then if ib (p25.2.a 66 ((x1 : Int32).toNatClampNeg)) 3000 then some (RS.setI (RS.setA (RS.setI (RS.setI p25.2 43 ((p25.2.i 43) - 1)) 52 ((p25.2.i 52) - 1)) 23 (((p25.2.a 66 ((x1 : Int32).toNatClampNeg)) : Int32).toNatClampNeg) (p25.2.i 20)) 63 ((p25.2.i 63) - 1)) else none else none
def f_X12_arms_333 (N : Nat) (σ : RS) : Option (RS) :=
  (if (σ.i 10) = 44 then (f_X12_next N σ).bind fun p51 => some p51 else some σ)
def f_X12_arms_400 (N : Nat) (σ : RS) : Option (RS) :=
  (f_X12_then N σ 7 16).bind fun p62 => some p62
def f_X12_arms_435 (N : Nat) (σ : RS) (x1 : Int32) : Option (RS) :=
  (f_X12_shut N σ 125).bind fun p71 => if ib x1 1000 then some (RS.setA (RS.setI p71.2 38 (p71.2.a 71 ((x1 : Int32).toNatClampNeg))) 65 ((x1 : Int32).toNatClampNeg) 2) else none
def f_X12_arms (N : Nat) (σ : RS) (x1 : Int32) : Option (RS) :=
  if ib x1 1000 then (if (σ.a 65 ((x1 : Int32).toNatClampNeg)) = 0 then (f_X12_next N σ).bind fun p3 => (f_X12_open N p3 40).bind fun p5 => (f_X12_then N p5.2 1 16).bind fun p7 => some p7 else (if (σ.a 65 ((x1 : Int32).toNatClampNeg)) = 1 then (f_X12_shut N σ 41).bind fun p10 => (f_X12_emit N p10.2 29 (-1)).bind fun p12 => (f_X12_goal N (RS.setI (RS.setA (RS.setA (RS.setA p12.2 66 ((x1 : Int32).toNatClampNeg) p12.1) 67 ((x1 : Int32).toNatClampNeg) (-1)) 68 ((x1 : Int32).toNatClampNeg) 0) 52 ((p12.2.i 52) + 1)) 3 0).bind fun p14 => (f_X12_open N p14.2 123).bind fun p16 => some (RS.setA p16.2 65 ((x1 : Int32).toNatClampNeg) 2) else (if (σ.a 65 ((x1 : Int32).toNatClampNeg)) = 2 then (if (σ.i 10) = 429 then (f_X12_next N σ).bind fun p43 => some (RS.setA p43 65 ((x1 : Int32).toNatClampNeg) 3) else (if (σ.i 10) = 430 then (if (σ.a 68 ((x1 : Int32).toNatClampNeg)) = 1 then (f_X12_fail N σ 4 (σ.i 11)).bind fun p41 => some p41 else (f_X12_entry N (RS.setA σ 68 ((x1 : Int32).toNatClampNeg) 1) x1 0 1).bind fun p37 => (f_X12_next N p37).bind fun p39 => some (RS.setA p39 65 ((x1 : Int32).toNatClampNeg) 5)) else (if (σ.i 10) = 125 then (if (σ.a 68 ((x1 : Int32).toNatClampNeg)) = 1 then (f_X12_can N σ 1).bind fun p33 => (if p33.1 = 0 then some p33.2 else f_X12_arms_250 N p33.2 x1) else (f_X12_can N σ 0).bind fun p30 => (if p30.1 = 0 then some p30.2 else f_X12_arms_250 N p30.2 x1)) else (f_X12_can N σ 0).bind fun p22 => (if p22.1 = 0 then some p22.2 else f_X12_arms_250 N p22.2 x1)))) else (if (σ.a 65 ((x1 : Int32).toNatClampNeg)) = 3 then (f_X12_caseNumber N σ x1).bind fun p46 => (if p46.1 = 0 then some p46.2 else (if (p46.2.i 10) = 44 then f_X12_arms_333 N (RS.setA p46.2 65 ((x1 : Int32).toNatClampNeg) 3) else f_X12_arms_333 N (RS.setA p46.2 65 ((x1 : Int32).toNatClampNeg) 5))) else (if (σ.a 65 ((x1 : Int32).toNatClampNeg)) = 4 then (f_X12_need N σ 59).bind fun p54 => (f_X12_emit N p54.2 30 0).bind fun p56 => some (RS.setA p56.2 65 ((x1 : Int32).toNatClampNeg) 2) else (if (σ.a 65 ((x1 : Int32).toNatClampNeg)) = 5 then (f_X12_need N σ 306).bind fun p59 => (if (p59.2.i 15) = 0 then (if (p59.2.i 10) = 123 then (f_X12_open N p59.2 123).bind fun p65 => (f_X12_then N (RS.setA p65.2 71 ((x1 : Int32).toNatClampNeg) (p65.2.i 38)) 6 1).bind fun p67 => some p67 else f_X12_arms_400 N p59.2) else f_X12_arms_400 N p59.2) else (if (σ.a 65 ((x1 : Int32).toNatClampNeg)) = 6 then (if (σ.i 75) = 0 then f_X12_arms_435 N σ x1 else (if (σ.i 10) = 125 then (f_X12_note N σ (σ.i 11)).bind fun p75 => f_X12_arms_435 N p75 x1 else f_X12_arms_435 N σ x1)) else (f_X12_need N σ 59).bind fun p77 => (f_X12_emit N p77.2 30 0).bind fun p79 => some (RS.setA p79.2 65 ((x1 : Int32).toNatClampNeg) 2)))))))) else none
def f_X12_both_41 (N : Nat) (σ : RS) (x1 : Int32) (x2 : Int32) (x3 : Int32) (x4 : Int32) : Option (RS) :=
  (if (σ.i 10) = x3 then (f_X12_next N σ).bind fun p5 => (f_X12_emit N p5 x4 0).bind fun p7 => if ib x1 1000 then (f_X12_then N (RS.setA p7.2 66 ((x1 : Int32).toNatClampNeg) p7.1) 2 x2).bind fun p10 => some p10 else none else some (RS.setI σ 63 ((σ.i 63) - 1)))
def f_X12_both (N : Nat) (σ : RS) (x1 : Int32) (x2 : Int32) (x3 : Int32) (x4 : Int32) : Option (RS) :=
  if ib x1 1000 then (if (σ.a 65 ((x1 : Int32).toNatClampNeg)) = 0 then (f_X12_then N σ 1 x2).bind fun p13 => some p13 else (if (σ.a 65 ((x1 : Int32).toNatClampNeg)) = 2 then if ib (σ.a 66 ((x1 : Int32).toNatClampNeg)) 3000 then f_X12_both_41 N (RS.setA σ 22 (((σ.a 66 ((x1 : Int32).toNatClampNeg)) : Int32).toNatClampNeg) (σ.i 20)) x1 x2 x3 x4 else none else f_X12_both_41 N σ x1 x2 x3 x4)) else none
def f_X12_one_133 (N : Nat) (σ : RS) : Option (RS) :=
  (f_X12_next N σ).bind fun p9 => some (RS.setI p9 63 ((p9.i 63) - 1))
def f_X12_one_112 (N : Nat) (σ : RS) : Option (RS) :=
  (if (σ.i 10) = 432 then (f_X12_emit N σ 2 1).bind fun p11 => f_X12_one_133 N p11.2 else (f_X12_emit N σ 2 0).bind fun p7 => f_X12_one_133 N p7.2)
def f_X12_one_281 (N : Nat) (σ : RS) (x1 : Int32) : Option (RS) :=
  if ib x1 1000 then (f_X12_next N (RS.setA σ 66 ((x1 : Int32).toNatClampNeg) (σ.i 10))).bind fun p39 => (f_X12_then N p39 4 16).bind fun p41 => some p41 else none
def f_X12_one (N : Nat) (σ : RS) (x1 : Int32) : Option (RS) :=
  if ib x1 1000 then (if (σ.a 65 ((x1 : Int32).toNatClampNeg)) = 0 then (if (σ.i 10) = 33 then (f_X12_opens N σ).bind fun p20 => (if p20.1 = 0 then some p20.2 else (f_X12_next N p20.2).bind fun p23 => (f_X12_then N p23 1 22).bind fun p25 => some p25) else (if (σ.i 10) = 91 then (f_X12_open N σ 91).bind fun p16 => (f_X12_then N p16.2 2 20).bind fun p18 => some p18 else (if (σ.i 10) = 432 then f_X12_one_112 N σ else (if (σ.i 10) = 433 then f_X12_one_112 N σ else (f_X12_then N σ 3 16).bind fun p14 => some p14)))) else (if (σ.a 65 ((x1 : Int32).toNatClampNeg)) = 1 then (f_X12_emit N (RS.setI σ 19 ((σ.i 19) - 1)) 10 0).bind fun p28 => some (RS.setI p28.2 63 ((p28.2.i 63) - 1)) else (if (σ.a 65 ((x1 : Int32).toNatClampNeg)) = 2 then (f_X12_shut N σ 93).bind fun p31 => some (RS.setI p31.2 63 ((p31.2.i 63) - 1)) else (if (σ.a 65 ((x1 : Int32).toNatClampNeg)) = 3 then (if (σ.i 10) = 60 then (f_X12_can N σ 1).bind fun p35 => (if p35.1 = 0 then some p35.2 else f_X12_one_281 N p35.2 x1) else (if (σ.i 10) = 300 then (f_X12_can N σ 1).bind fun p44 => (if p44.1 = 0 then some p44.2 else f_X12_one_281 N p44.2 x1) else (if (σ.i 10) = 62 then (f_X12_can N σ 1).bind fun p48 => (if p48.1 = 0 then some p48.2 else f_X12_one_281 N p48.2 x1) else (if (σ.i 10) = 301 then (f_X12_can N σ 1).bind fun p52 => (if p52.1 = 0 then some p52.2 else f_X12_one_281 N p52.2 x1) else (if (σ.i 10) = 302 then (f_X12_can N σ 1).bind fun p56 => (if p56.1 = 0 then some p56.2 else f_X12_one_281 N p56.2 x1) else (if (σ.i 10) = 303 then (f_X12_can N σ 1).bind fun p63 => (if p63.1 = 0 then some p63.2 else f_X12_one_281 N p63.2 x1) else (f_X12_can N σ 0).bind fun p60 => (if p60.1 = 0 then some p60.2 else f_X12_one_281 N p60.2 x1))))))) else (f_X12_emit N σ 9 (σ.a 66 ((x1 : Int32).toNatClampNeg))).bind fun p66 => some (RS.setI p66.2 63 ((p66.2.i 63) - 1)))))) else none
def f_X12_thing_74 (N : Nat) (σ : RS) : Option (RS) :=
  some σ
def f_X12_thing_116 (N : Nat) (σ : RS) : Option (RS) :=
  some σ
def f_X12_thing (N : Nat) (σ : RS) (x1 : Int32) : Option (RS) :=
  if ib x1 1000 then (if (σ.a 64 ((x1 : Int32).toNatClampNeg)) = 16 then (if (σ.i 10) = 43 then (f_X12_sums N σ x1 17 1).bind fun p4 => f_X12_thing_74 N p4 else (if (σ.i 10) = 45 then (f_X12_sums N σ x1 17 1).bind fun p9 => f_X12_thing_74 N p9 else (f_X12_sums N σ x1 17 0).bind fun p7 => f_X12_thing_74 N p7)) else (if (σ.a 64 ((x1 : Int32).toNatClampNeg)) = 17 then (if (σ.i 10) = 42 then (f_X12_sums N σ x1 18 1).bind fun p13 => f_X12_thing_116 N p13 else (if (σ.i 10) = 47 then (f_X12_sums N σ x1 18 1).bind fun p16 => f_X12_thing_116 N p16 else (if (σ.i 10) = 37 then (f_X12_sums N σ x1 18 1).bind fun p21 => f_X12_thing_116 N p21 else (f_X12_sums N σ x1 18 0).bind fun p19 => f_X12_thing_116 N p19))) else (if (σ.a 64 ((x1 : Int32).toNatClampNeg)) = 18 then (f_X12_factor N σ x1).bind fun p24 => some p24 else (if (σ.a 64 ((x1 : Int32).toNatClampNeg)) = 19 then (f_X12_arms N σ x1).bind fun p27 => some p27 else (if (σ.a 64 ((x1 : Int32).toNatClampNeg)) = 20 then (f_X12_both N σ x1 21 305 11).bind fun p30 => some p30 else (if (σ.a 64 ((x1 : Int32).toNatClampNeg)) = 21 then (f_X12_both N σ x1 22 304 12).bind fun p33 => some p33 else (f_X12_one N σ x1).bind fun p35 => some p35)))))) else none
def b_X12_parse_10 (N : Nat) (K : RS → Option (RS)) (σ : RS) : Option (RS) :=
  (if (σ.i 63) < 0 then some σ else (if (σ.i 15) = 0 then if ib (σ.i 63) 1000 then (if (σ.a 64 (((σ.i 63) : Int32).toNatClampNeg)) = 1 then (f_X12_list N σ (σ.i 63)).bind fun p7 => K p7 else (if (σ.a 64 (((σ.i 63) : Int32).toNatClampNeg)) = 2 then (f_X12_stat N σ (σ.i 63)).bind fun p10 => K p10 else (if (σ.a 64 (((σ.i 63) : Int32).toNatClampNeg)) = 3 then (f_X12_block N σ (σ.i 63)).bind fun p13 => K p13 else (if (σ.a 64 (((σ.i 63) : Int32).toNatClampNeg)) = 4 then (f_X12_tell N σ (σ.i 63)).bind fun p16 => K p16 else (if (σ.a 64 (((σ.i 63) : Int32).toNatClampNeg)) = 5 then (f_X12_named N σ (σ.i 63)).bind fun p19 => K p19 else (if (σ.a 64 (((σ.i 63) : Int32).toNatClampNeg)) = 6 then (f_X12_ending N σ (σ.i 63)).bind fun p22 => K p22 else (if (σ.a 64 (((σ.i 63) : Int32).toNatClampNeg)) = 7 then (f_X12_throwing N σ (σ.i 63)).bind fun p25 => K p25 else (if (σ.a 64 (((σ.i 63) : Int32).toNatClampNeg)) = 8 then (f_X12_asserted N σ (σ.i 63)).bind fun p28 => K p28 else (if (σ.a 64 (((σ.i 63) : Int32).toNatClampNeg)) = 9 then (f_X12_branch N σ (σ.i 63)).bind fun p31 => K p31 else (if (σ.a 64 (((σ.i 63) : Int32).toNatClampNeg)) = 10 then (f_X12_whiles N σ (σ.i 63)).bind fun p34 => K p34 else (if (σ.a 64 (((σ.i 63) : Int32).toNatClampNeg)) = 11 then (f_X12_repeats N σ (σ.i 63)).bind fun p37 => K p37 else (if (σ.a 64 (((σ.i 63) : Int32).toNatClampNeg)) = 12 then (f_X12_fors N σ (σ.i 63)).bind fun p40 => K p40 else (if (σ.a 64 (((σ.i 63) : Int32).toNatClampNeg)) = 13 then (f_X12_lock N σ (σ.i 63)).bind fun p43 => K p43 else (if (σ.a 64 (((σ.i 63) : Int32).toNatClampNeg)) = 14 then (f_X12_groups N σ (σ.i 63)).bind fun p46 => K p46 else (if (σ.a 64 (((σ.i 63) : Int32).toNatClampNeg)) = 15 then (f_X12_trying N σ (σ.i 63)).bind fun p49 => K p49 else (f_X12_thing N σ (σ.i 63)).bind fun p51 => K p51))))))))))))))) else none else some σ))
def f_X12_parse_10 (N : Nat) : Nat → RS → Option (RS)
  | 0 => fun _ => none
  | n+1 => b_X12_parse_10 N (f_X12_parse_10 N n)
def f_X12_parse (N : Nat) (σ : RS) : Option (RS) :=
  (f_X12_push N (RS.setI σ 63 (-1)) 1).bind fun p1 => f_X12_parse_10 N N p1
def f_X12_read_199 (N : Nat) (σ : RS) : Option (Int32 × RS) :=
  (if (σ.i 15) = 0 then some ((σ.i 53), RS.setI (RS.setI σ 79 0) 81 0) else some (((-10) - (σ.i 16)), RS.setI (RS.setI σ 79 0) 81 0))
def f_X12_read_167 (N : Nat) (σ : RS) : Option (Int32 × RS) :=
  if (σ.i 75) = 0 ∨ (σ.i 75) = 1 then (if (σ.i 15) = 0 then f_X12_read_199 N (RS.setI (RS.setI (RS.setI σ 78 (σ.i 75)) 76 (σ.i 15)) 77 1) else f_X12_read_199 N (RS.setI (RS.setI (RS.setI σ 78 (σ.i 75)) 76 (σ.i 15)) 77 0)) else none
def f_X12_read_138 (N : Nat) (σ : RS) : Option (Int32 × RS) :=
  (if (σ.i 15) = 0 then (if (σ.i 18) < 0 then f_X12_read_167 N (RS.setI σ 2 0) else (f_X12_fail N (RS.setI σ 2 0) 7 (σ.i 18)).bind fun p17 => f_X12_read_167 N p17) else f_X12_read_167 N (RS.setI σ 2 0))
def f_X12_read (N : Nat) (σ : RS) : Option (Int32 × RS) :=
  (f_X12_see N (RS.setI (RS.setI (RS.setI (RS.setI (RS.setI (RS.setI (RS.setI (RS.setI (RS.setI (RS.setI (RS.setI (RS.setI (RS.setI (RS.setI (RS.setI (RS.setI (RS.setI (RS.setI (RS.setI σ 0 0) 38 0) 42 0) 43 0) 19 0) 53 0) 54 0) 55 0) 20 0) 24 0) 29 0) 33 0) 56 0) 59 0) 52 0) 12 0) 15 0) 18 (-1)) 17 0) 97 0).bind fun p1 => (f_X12_see N p1.2 98 0).bind fun p3 => (f_X12_next N p3.2).bind fun p5 => (f_X12_parse N p5).bind fun p7 => (if (p7.i 10) = 0 then (f_X12_can N p7 1).bind fun p19 => f_X12_read_138 N p19.2 else (f_X12_can N p7 0).bind fun p10 => f_X12_read_138 N p10.2)
def f_X12_fault (N : Nat) (σ : RS) : Option (Int32 × RS) :=
  some ((σ.i 76), RS.setI σ 0 0)
def f_X12_program (N : Nat) (σ : RS) (x1 : Int32) : Option (Int32 × RS) :=
  (f_X12_in N (RS.setI σ 0 0) x1 0 3).bind fun p1 => (if p1.1 = 0 then some ((-1), p1.2) else (if (p1.2.i 77) = 0 then some ((-3), p1.2) else (if x1 = 0 then some ((p1.2.i 53), p1.2) else (if x1 = 1 then (if (p1.2.i 78) = 0 then some (0, p1.2) else some (1, p1.2)) else (if x1 = 2 then some ((p1.2.i 54), p1.2) else some ((p1.2.i 55), p1.2))))))
def f_X12_row (N : Nat) (σ : RS) (x1 : Int32) (x2 : Int32) : Option (RS) :=
  (if 200 ≤ (σ.i 81) then some σ else if ib (σ.i 81) 200 then some (RS.setI (RS.setA (RS.setA σ 82 (((σ.i 81) : Int32).toNatClampNeg) x1) 83 (((σ.i 81) : Int32).toNatClampNeg) x2) 81 ((σ.i 81) + 1)) else none)
def f_X12_record (N : Nat) (σ : RS) (x1 : Int32) (x2 : Int32) (x3 : Int32) (x4 : Int32) : Option (Int32 × RS) :=
  if ib (σ.i 99) 300 then some ((σ.i 99), RS.setI (RS.setA (RS.setA (RS.setA (RS.setA (RS.setA σ 100 (((σ.i 99) : Int32).toNatClampNeg) x1) 101 (((σ.i 99) : Int32).toNatClampNeg) x2) 102 (((σ.i 99) : Int32).toNatClampNeg) x3) 103 (((σ.i 99) : Int32).toNatClampNeg) x4) 104 (((σ.i 99) : Int32).toNatClampNeg) (σ.i 93)) 99 ((σ.i 99) + 1)) else none
def f_X12_put (N : Nat) (σ : RS) (x1 : Int32) : Option (RS) :=
  if ib (σ.i 93) 1400 then some (RS.setI (RS.setA σ 94 (((σ.i 93) : Int32).toNatClampNeg) x1) 93 ((σ.i 93) + 1)) else none
def f_X12_take (N : Nat) (σ : RS) : Option (Int32 × RS) :=
  if ib ((σ.i 93) - 1) 1400 then some ((σ.a 94 ((((σ.i 93) - 1) : Int32).toNatClampNeg)), RS.setI σ 93 ((σ.i 93) - 1)) else none
def f_X12_raise_24 (N : Nat) (σ : RS) (x1 : Int32) (x2 : Int32) : Option (RS) :=
  if ib (σ.i 114) 3200 then some (RS.setI (RS.setA (RS.setA (RS.setA (RS.setI σ 85 ((σ.i 114) + 1)) 86 (((σ.i 114) : Int32).toNatClampNeg) x1) 87 (((σ.i 114) : Int32).toNatClampNeg) x2) 88 (((σ.i 114) : Int32).toNatClampNeg) 0) 110 3) else none
def f_X12_raise (N : Nat) (σ : RS) (x1 : Int32) (x2 : Int32) : Option (RS) :=
  (if 3200 ≤ (σ.i 85) then f_X12_raise_24 N (RS.setI σ 114 3199) x1 x2 else f_X12_raise_24 N (RS.setI σ 114 (σ.i 85)) x1 x2)
def b_X12_closeAll_0 (N : Nat) (K : RS → Int32 → Option (RS)) (σ : RS) (x1 : Int32) : Option (RS) :=
  if ib x1 300 then (if (σ.i 95) ≤ (σ.a 103 ((x1 : Int32).toNatClampNeg)) then some σ else if ib ((σ.i 95) - 1) 460 then (f_X12_row N (RS.setI σ 95 ((σ.i 95) - 1)) 2 (σ.a 96 ((((σ.i 95) - 1) : Int32).toNatClampNeg))).bind fun p4 => if ib (σ.a 96 ((((σ.i 95) - 1) : Int32).toNatClampNeg)) 8 then (if ((p4.a 7 (((σ.a 96 ((((σ.i 95) - 1) : Int32).toNatClampNeg)) : Int32).toNatClampNeg)) - 1) < 0 then K p4 x1 else (if (p4.i 110) = 3 then if ib (p4.i 114) 3200 then (if 8 ≤ (p4.a 88 (((p4.i 114) : Int32).toNatClampNeg)) then K p4 x1 else if ib ((8 * (p4.i 114)) + (p4.a 88 (((p4.i 114) : Int32).toNatClampNeg))) 25600 then K (RS.setA (RS.setA (RS.setA p4 89 ((((8 * (p4.i 114)) + (p4.a 88 (((p4.i 114) : Int32).toNatClampNeg))) : Int32).toNatClampNeg) ((p4.a 7 (((σ.a 96 ((((σ.i 95) - 1) : Int32).toNatClampNeg)) : Int32).toNatClampNeg)) - 1)) 90 ((((8 * (p4.i 114)) + (p4.a 88 (((p4.i 114) : Int32).toNatClampNeg))) : Int32).toNatClampNeg) (σ.a 96 ((((σ.i 95) - 1) : Int32).toNatClampNeg))) 88 (((p4.i 114) : Int32).toNatClampNeg) ((p4.a 88 (((p4.i 114) : Int32).toNatClampNeg)) + 1)) x1 else none) else none else (f_X12_raise N p4 ((p4.a 7 (((σ.a 96 ((((σ.i 95) - 1) : Int32).toNatClampNeg)) : Int32).toNatClampNeg)) - 1) (σ.a 96 ((((σ.i 95) - 1) : Int32).toNatClampNeg))).bind fun p14 => K p14 x1)) else none else none) else none
def f_X12_closeAll_0 (N : Nat) : Nat → RS → Int32 → Option (RS)
  | 0 => fun _ _ => none
  | n+1 => b_X12_closeAll_0 N (f_X12_closeAll_0 N n)
def f_X12_closeAll (N : Nat) (σ : RS) (x1 : Int32) : Option (RS) :=
  f_X12_closeAll_0 N N σ x1
def f_X12_finals (N : Nat) (σ : RS) (x1 : Int32) : Option (Int32 × RS) :=
  if ib x1 300 then if ib (σ.a 101 ((x1 : Int32).toNatClampNeg)) 200 then (if 0 ≤ (σ.a 31 (((σ.a 101 ((x1 : Int32).toNatClampNeg)) : Int32).toNatClampNeg)) then some (1, RS.setI (RS.setI (RS.setA (RS.setA (RS.setA (RS.setA (RS.setA (RS.setA σ 105 ((x1 : Int32).toNatClampNeg) (σ.i 110)) 106 ((x1 : Int32).toNatClampNeg) (σ.i 111)) 107 ((x1 : Int32).toNatClampNeg) (σ.i 112)) 108 ((x1 : Int32).toNatClampNeg) (σ.i 113)) 109 ((x1 : Int32).toNatClampNeg) (σ.i 114)) 102 ((x1 : Int32).toNatClampNeg) 2) 93 (σ.a 104 ((x1 : Int32).toNatClampNeg))) 92 (σ.a 31 (((σ.a 101 ((x1 : Int32).toNatClampNeg)) : Int32).toNatClampNeg))) else some (0, σ)) else none else none
def b_X12_isCaught_12 (N : Nat) (K : RS → Int32 → Int32 → Option (Int32 × RS)) (σ : RS) (x1 : Int32) (x2 : Int32) : Option (Int32 × RS) :=
  (if x2 < 0 then some (0, σ) else if ib (σ.i 114) 3200 then if ib x2 400 then (f_X12_isUnder N σ (σ.a 86 (((σ.i 114) : Int32).toNatClampNeg)) (σ.a 34 ((x2 : Int32).toNatClampNeg))).bind fun p6 => (if p6.1 = 0 then K p6.2 x1 (p6.2.a 37 ((x2 : Int32).toNatClampNeg)) else if ib (p6.2.a 36 ((x2 : Int32).toNatClampNeg)) 460 then if ib x1 300 then some (1, RS.setI (RS.setI (RS.setA (RS.setA p6.2 84 (((p6.2.a 36 ((x2 : Int32).toNatClampNeg)) : Int32).toNatClampNeg) (p6.2.i 114)) 102 ((x1 : Int32).toNatClampNeg) 1) 93 (p6.2.a 104 ((x1 : Int32).toNatClampNeg))) 92 (p6.2.a 35 ((x2 : Int32).toNatClampNeg))) else none else none) else none else none)
def f_X12_isCaught_12 (N : Nat) : Nat → RS → Int32 → Int32 → Option (Int32 × RS)
  | 0 => fun _ _ _ => none
  | n+1 => b_X12_isCaught_12 N (f_X12_isCaught_12 N n)
def f_X12_isCaught (N : Nat) (σ : RS) (x1 : Int32) : Option (Int32 × RS) :=
  if ib x1 300 then if ib (σ.a 101 ((x1 : Int32).toNatClampNeg)) 200 then f_X12_isCaught_12 N N σ x1 (σ.a 30 (((σ.a 101 ((x1 : Int32).toNatClampNeg)) : Int32).toNatClampNeg)) else none else none
def b_X12_leave_0 (N : Nat) (K : RS → Option (RS)) (σ : RS) : Option (RS) :=
  (if (σ.i 110) = 1 then (if (σ.i 99) ≤ (σ.i 112) then some (RS.setI σ 92 (σ.i 111)) else if ib ((σ.i 99) - 1) 300 then (if (σ.a 100 ((((σ.i 99) - 1) : Int32).toNatClampNeg)) = 1 then (f_X12_row N σ 4 (σ.a 101 ((((σ.i 99) - 1) : Int32).toNatClampNeg))).bind fun p27 => if ib (p27.a 101 ((((σ.i 99) - 1) : Int32).toNatClampNeg)) 8 then K (RS.setI (RS.setA p27 91 (((p27.a 101 ((((σ.i 99) - 1) : Int32).toNatClampNeg)) : Int32).toNatClampNeg) ((p27.a 91 (((p27.a 101 ((((σ.i 99) - 1) : Int32).toNatClampNeg)) : Int32).toNatClampNeg)) - 1)) 99 ((p27.i 99) - 1)) else none else (if (σ.a 100 ((((σ.i 99) - 1) : Int32).toNatClampNeg)) = 2 then K (RS.setI (RS.setI σ 97 (σ.a 101 ((((σ.i 99) - 1) : Int32).toNatClampNeg))) 99 ((σ.i 99) - 1)) else (if (σ.a 100 ((((σ.i 99) - 1) : Int32).toNatClampNeg)) = 4 then (if (σ.a 102 ((((σ.i 99) - 1) : Int32).toNatClampNeg)) = 0 then (f_X12_closeAll N σ ((σ.i 99) - 1)).bind fun p13 => (if (p13.i 110) = 3 then (f_X12_isCaught N p13 ((σ.i 99) - 1)).bind fun p20 => (if p20.1 = 0 then (if 2 ≤ (p20.2.a 102 ((((σ.i 99) - 1) : Int32).toNatClampNeg)) then K (RS.setI p20.2 99 ((p20.2.i 99) - 1)) else (f_X12_finals N p20.2 ((σ.i 99) - 1)).bind fun p24 => (if p24.1 = 0 then K (RS.setI p24.2 99 ((p24.2.i 99) - 1)) else some p24.2)) else some p20.2) else (if 2 ≤ (p13.a 102 ((((σ.i 99) - 1) : Int32).toNatClampNeg)) then K (RS.setI p13 99 ((p13.i 99) - 1)) else (f_X12_finals N p13 ((σ.i 99) - 1)).bind fun p17 => (if p17.1 = 0 then K (RS.setI p17.2 99 ((p17.2.i 99) - 1)) else some p17.2))) else (if 2 ≤ (σ.a 102 ((((σ.i 99) - 1) : Int32).toNatClampNeg)) then K (RS.setI σ 99 ((σ.i 99) - 1)) else (f_X12_finals N σ ((σ.i 99) - 1)).bind fun p10 => (if p10.1 = 0 then K (RS.setI p10.2 99 ((p10.2.i 99) - 1)) else some p10.2))) else K (RS.setI σ 99 ((σ.i 99) - 1))))) else none) else (if (σ.i 110) = 4 then (if (σ.i 99) ≤ (σ.i 112) then if ib ((σ.i 99) - 1) 300 then (f_X12_put N (RS.setI (RS.setI σ 99 ((σ.i 99) - 1)) 93 (σ.a 104 ((((σ.i 99) - 1) : Int32).toNatClampNeg))) (σ.i 113)).bind fun p64 => if ib (p64.i 99) 300 then if ib (p64.a 101 (((p64.i 99) : Int32).toNatClampNeg)) 3000 then some (RS.setI p64 92 (p64.a 23 (((p64.a 101 (((p64.i 99) : Int32).toNatClampNeg)) : Int32).toNatClampNeg))) else none else none else none else if ib ((σ.i 99) - 1) 300 then (if (σ.a 100 ((((σ.i 99) - 1) : Int32).toNatClampNeg)) = 1 then (f_X12_row N σ 4 (σ.a 101 ((((σ.i 99) - 1) : Int32).toNatClampNeg))).bind fun p91 => if ib (p91.a 101 ((((σ.i 99) - 1) : Int32).toNatClampNeg)) 8 then K (RS.setI (RS.setA p91 91 (((p91.a 101 ((((σ.i 99) - 1) : Int32).toNatClampNeg)) : Int32).toNatClampNeg) ((p91.a 91 (((p91.a 101 ((((σ.i 99) - 1) : Int32).toNatClampNeg)) : Int32).toNatClampNeg)) - 1)) 99 ((p91.i 99) - 1)) else none else (if (σ.a 100 ((((σ.i 99) - 1) : Int32).toNatClampNeg)) = 2 then K (RS.setI (RS.setI σ 97 (σ.a 101 ((((σ.i 99) - 1) : Int32).toNatClampNeg))) 99 ((σ.i 99) - 1)) else (if (σ.a 100 ((((σ.i 99) - 1) : Int32).toNatClampNeg)) = 4 then (if (σ.a 102 ((((σ.i 99) - 1) : Int32).toNatClampNeg)) = 0 then (f_X12_closeAll N σ ((σ.i 99) - 1)).bind fun p77 => (if (p77.i 110) = 3 then (f_X12_isCaught N p77 ((σ.i 99) - 1)).bind fun p84 => (if p84.1 = 0 then (if 2 ≤ (p84.2.a 102 ((((σ.i 99) - 1) : Int32).toNatClampNeg)) then K (RS.setI p84.2 99 ((p84.2.i 99) - 1)) else (f_X12_finals N p84.2 ((σ.i 99) - 1)).bind fun p88 => (if p88.1 = 0 then K (RS.setI p88.2 99 ((p88.2.i 99) - 1)) else some p88.2)) else some p84.2) else (if 2 ≤ (p77.a 102 ((((σ.i 99) - 1) : Int32).toNatClampNeg)) then K (RS.setI p77 99 ((p77.i 99) - 1)) else (f_X12_finals N p77 ((σ.i 99) - 1)).bind fun p81 => (if p81.1 = 0 then K (RS.setI p81.2 99 ((p81.2.i 99) - 1)) else some p81.2))) else (if 2 ≤ (σ.a 102 ((((σ.i 99) - 1) : Int32).toNatClampNeg)) then K (RS.setI σ 99 ((σ.i 99) - 1)) else (f_X12_finals N σ ((σ.i 99) - 1)).bind fun p74 => (if p74.1 = 0 then K (RS.setI p74.2 99 ((p74.2.i 99) - 1)) else some p74.2))) else K (RS.setI σ 99 ((σ.i 99) - 1))))) else none) else (if (σ.i 99) ≤ 0 then some (RS.setI (RS.setI σ 115 (σ.i 110)) 92 (-1)) else if ib ((σ.i 99) - 1) 300 then (if (σ.a 100 ((((σ.i 99) - 1) : Int32).toNatClampNeg)) = 1 then (f_X12_row N σ 4 (σ.a 101 ((((σ.i 99) - 1) : Int32).toNatClampNeg))).bind fun p57 => if ib (p57.a 101 ((((σ.i 99) - 1) : Int32).toNatClampNeg)) 8 then K (RS.setI (RS.setA p57 91 (((p57.a 101 ((((σ.i 99) - 1) : Int32).toNatClampNeg)) : Int32).toNatClampNeg) ((p57.a 91 (((p57.a 101 ((((σ.i 99) - 1) : Int32).toNatClampNeg)) : Int32).toNatClampNeg)) - 1)) 99 ((p57.i 99) - 1)) else none else (if (σ.a 100 ((((σ.i 99) - 1) : Int32).toNatClampNeg)) = 2 then K (RS.setI (RS.setI σ 97 (σ.a 101 ((((σ.i 99) - 1) : Int32).toNatClampNeg))) 99 ((σ.i 99) - 1)) else (if (σ.a 100 ((((σ.i 99) - 1) : Int32).toNatClampNeg)) = 4 then (if (σ.a 102 ((((σ.i 99) - 1) : Int32).toNatClampNeg)) = 0 then (f_X12_closeAll N σ ((σ.i 99) - 1)).bind fun p43 => (if (p43.i 110) = 3 then (f_X12_isCaught N p43 ((σ.i 99) - 1)).bind fun p50 => (if p50.1 = 0 then (if 2 ≤ (p50.2.a 102 ((((σ.i 99) - 1) : Int32).toNatClampNeg)) then K (RS.setI p50.2 99 ((p50.2.i 99) - 1)) else (f_X12_finals N p50.2 ((σ.i 99) - 1)).bind fun p54 => (if p54.1 = 0 then K (RS.setI p54.2 99 ((p54.2.i 99) - 1)) else some p54.2)) else some p50.2) else (if 2 ≤ (p43.a 102 ((((σ.i 99) - 1) : Int32).toNatClampNeg)) then K (RS.setI p43 99 ((p43.i 99) - 1)) else (f_X12_finals N p43 ((σ.i 99) - 1)).bind fun p47 => (if p47.1 = 0 then K (RS.setI p47.2 99 ((p47.2.i 99) - 1)) else some p47.2))) else (if 2 ≤ (σ.a 102 ((((σ.i 99) - 1) : Int32).toNatClampNeg)) then K (RS.setI σ 99 ((σ.i 99) - 1)) else (f_X12_finals N σ ((σ.i 99) - 1)).bind fun p40 => (if p40.1 = 0 then K (RS.setI p40.2 99 ((p40.2.i 99) - 1)) else some p40.2))) else K (RS.setI σ 99 ((σ.i 99) - 1))))) else none)))
def f_X12_leave_0 (N : Nat) : Nat → RS → Option (RS)
  | 0 => fun _ => none
  | n+1 => b_X12_leave_0 N (f_X12_leave_0 N n)
def f_X12_leave (N : Nat) (σ : RS) : Option (RS) :=
  f_X12_leave_0 N N σ
def f_X12_step (N : Nat) (σ : RS) : Option (RS) :=
  (if (σ.i 80) = 1000 then some (RS.setI (RS.setI σ 115 5) 92 (-1)) else some (RS.setI σ 80 ((σ.i 80) + 1)))
def f_X12_compute (N : Nat) (σ : RS) (x1 : Int32) (x2 : Int32) (x3 : Int32) : Option (Int32 × RS) :=
  (if x1 = 37 then if x3 = 0 then none else some ((x2 - x2 / x3 * x3), σ) else (if x1 = 42 then some ((x2 * x3), σ) else (if x1 = 43 then some ((x2 + x3), σ) else (if x1 = 45 then some ((x2 - x3), σ) else (if x1 = 47 then if x3 = 0 then none else some ((x2 / x3), σ) else (if x1 = 60 then (if x3 ≤ x2 then some (0, σ) else some (1, σ)) else (if x1 = 62 then (if x2 ≤ x3 then some (0, σ) else some (1, σ)) else (if x1 = 300 then (if x3 < x2 then some (0, σ) else some (1, σ)) else (if x1 = 301 then (if x2 < x3 then some (0, σ) else some (1, σ)) else (if x1 = 302 then (if x2 = x3 then some (1, σ) else some (0, σ)) else (if x2 = x3 then some (0, σ) else some (1, σ))))))))))))
def b_X12_caseOf_5 (N : Nat) (K : RS → Int32 → Int32 → Int32 → Option (Int32 × RS)) (σ : RS) (x2 : Int32) (x3 : Int32) (x4 : Int32) : Option (Int32 × RS) :=
  (if x4 < 0 then some (x3, σ) else if ib x4 500 then (if (σ.a 28 ((x4 : Int32).toNatClampNeg)) = 0 then (if (σ.a 25 ((x4 : Int32).toNatClampNeg)) = x2 then some (x4, σ) else K σ x2 x3 (σ.a 27 ((x4 : Int32).toNatClampNeg))) else K σ x2 x4 (σ.a 27 ((x4 : Int32).toNatClampNeg))) else none)
def f_X12_caseOf_5 (N : Nat) : Nat → RS → Int32 → Int32 → Int32 → Option (Int32 × RS)
  | 0 => fun _ _ _ _ => none
  | n+1 => b_X12_caseOf_5 N (f_X12_caseOf_5 N n)
def f_X12_caseOf (N : Nat) (σ : RS) (x1 : Int32) (x2 : Int32) : Option (Int32 × RS) :=
  f_X12_caseOf_5 N N σ x2 (-1) x1
def f_X12_goOn (N : Nat) (σ : RS) (x1 : Int32) : Option (RS) :=
  (f_X12_finals N σ x1).bind fun p1 => (if p1.1 = 0 then if ib x1 300 then if ib (p1.2.a 101 ((x1 : Int32).toNatClampNeg)) 200 then some (RS.setI (RS.setI p1.2 99 ((p1.2.i 99) - 1)) 92 (p1.2.a 32 (((p1.2.a 101 ((x1 : Int32).toNatClampNeg)) : Int32).toNatClampNeg))) else none else none else some p1.2)
def b_X12_others_85 (N : Nat) (K : RS → Int32 → Int32 → Int32 → Option (RS)) (σ : RS) (x2 : Int32) (x4 : Int32) (x5 : Int32) : Option (RS) :=
  (if x2 ≤ x5 then (f_X12_record N (RS.setI σ 93 ((σ.i 93) - x2)) 2 x4 x4 (σ.i 97)).bind fun p4 => some p4.2 else if ib (((σ.i 93) - x2) + x5) 1400 then if ib (σ.i 97) 460 then K (RS.setI (RS.setA σ 98 (((σ.i 97) : Int32).toNatClampNeg) (σ.a 94 (((((σ.i 93) - x2) + x5) : Int32).toNatClampNeg))) 97 ((σ.i 97) + 1)) x2 x4 (x5 + 1) else none else none)
def f_X12_others_85 (N : Nat) : Nat → RS → Int32 → Int32 → Int32 → Option (RS)
  | 0 => fun _ _ _ _ => none
  | n+1 => b_X12_others_85 N (f_X12_others_85 N n)
def f_X12_others (N : Nat) (σ : RS) (x1 : Int32) (x2 : Int32) : Option (RS) :=
  if ib x1 3000 then (if (σ.a 21 ((x1 : Int32).toNatClampNeg)) = 23 then f_X12_others_85 N N σ x2 (σ.i 97) 0 else (if (σ.a 21 ((x1 : Int32).toNatClampNeg)) = 24 then if ib ((σ.i 99) - 1) 300 then (if (σ.a 102 ((((σ.i 99) - 1) : Int32).toNatClampNeg)) = (σ.a 103 ((((σ.i 99) - 1) : Int32).toNatClampNeg)) then some (RS.setI σ 92 x2) else (f_X12_step N σ).bind fun p11 => if ib (p11.a 102 ((((σ.i 99) - 1) : Int32).toNatClampNeg)) 460 then if ib (p11.a 23 ((x1 : Int32).toNatClampNeg)) 460 then some (RS.setA (RS.setA p11 84 (((p11.a 23 ((x1 : Int32).toNatClampNeg)) : Int32).toNatClampNeg) (p11.a 98 (((p11.a 102 ((((σ.i 99) - 1) : Int32).toNatClampNeg)) : Int32).toNatClampNeg))) 102 ((((σ.i 99) - 1) : Int32).toNatClampNeg) ((p11.a 102 ((((σ.i 99) - 1) : Int32).toNatClampNeg)) + 1)) else none else none) else none else (if (σ.a 21 ((x1 : Int32).toNatClampNeg)) = 25 then if ib ((σ.i 99) - 1) 300 then some (RS.setI (RS.setI σ 97 (σ.a 101 ((((σ.i 99) - 1) : Int32).toNatClampNeg))) 99 ((σ.i 99) - 1)) else none else (if (σ.a 21 ((x1 : Int32).toNatClampNeg)) = 26 then if ib ((σ.i 99) - 1) 300 then (if (σ.a 105 ((((σ.i 99) - 1) : Int32).toNatClampNeg)) = 0 then some (RS.setI (RS.setI (RS.setI (RS.setI (RS.setI (RS.setI σ 110 (σ.a 105 ((((σ.i 99) - 1) : Int32).toNatClampNeg))) 111 (σ.a 106 ((((σ.i 99) - 1) : Int32).toNatClampNeg))) 112 (σ.a 107 ((((σ.i 99) - 1) : Int32).toNatClampNeg))) 113 (σ.a 108 ((((σ.i 99) - 1) : Int32).toNatClampNeg))) 114 (σ.a 109 ((((σ.i 99) - 1) : Int32).toNatClampNeg))) 99 ((σ.i 99) - 1)) else (f_X12_leave N (RS.setI (RS.setI (RS.setI (RS.setI (RS.setI (RS.setI σ 110 (σ.a 105 ((((σ.i 99) - 1) : Int32).toNatClampNeg))) 111 (σ.a 106 ((((σ.i 99) - 1) : Int32).toNatClampNeg))) 112 (σ.a 107 ((((σ.i 99) - 1) : Int32).toNatClampNeg))) 113 (σ.a 108 ((((σ.i 99) - 1) : Int32).toNatClampNeg))) 114 (σ.a 109 ((((σ.i 99) - 1) : Int32).toNatClampNeg))) 99 ((σ.i 99) - 1))).bind fun p20 => some p20) else none else (if (σ.a 21 ((x1 : Int32).toNatClampNeg)) = 27 then if ib ((σ.i 99) - 1) 300 then (if (σ.a 105 ((((σ.i 99) - 1) : Int32).toNatClampNeg)) = 0 then some (RS.setI (RS.setI (RS.setI (RS.setI (RS.setI (RS.setI σ 110 (σ.a 105 ((((σ.i 99) - 1) : Int32).toNatClampNeg))) 111 (σ.a 106 ((((σ.i 99) - 1) : Int32).toNatClampNeg))) 112 (σ.a 107 ((((σ.i 99) - 1) : Int32).toNatClampNeg))) 113 (σ.a 108 ((((σ.i 99) - 1) : Int32).toNatClampNeg))) 114 (σ.a 109 ((((σ.i 99) - 1) : Int32).toNatClampNeg))) 99 ((σ.i 99) - 1)) else (f_X12_leave N (RS.setI (RS.setI (RS.setI (RS.setI (RS.setI (RS.setI σ 110 (σ.a 105 ((((σ.i 99) - 1) : Int32).toNatClampNeg))) 111 (σ.a 106 ((((σ.i 99) - 1) : Int32).toNatClampNeg))) 112 (σ.a 107 ((((σ.i 99) - 1) : Int32).toNatClampNeg))) 113 (σ.a 108 ((((σ.i 99) - 1) : Int32).toNatClampNeg))) 114 (σ.a 109 ((((σ.i 99) - 1) : Int32).toNatClampNeg))) 99 ((σ.i 99) - 1))).bind fun p25 => some p25) else none else (if (σ.a 21 ((x1 : Int32).toNatClampNeg)) = 28 then if ib ((σ.i 99) - 1) 300 then (if (σ.a 105 ((((σ.i 99) - 1) : Int32).toNatClampNeg)) = 0 then some (RS.setI (RS.setI (RS.setI (RS.setI (RS.setI (RS.setI σ 110 (σ.a 105 ((((σ.i 99) - 1) : Int32).toNatClampNeg))) 111 (σ.a 106 ((((σ.i 99) - 1) : Int32).toNatClampNeg))) 112 (σ.a 107 ((((σ.i 99) - 1) : Int32).toNatClampNeg))) 113 (σ.a 108 ((((σ.i 99) - 1) : Int32).toNatClampNeg))) 114 (σ.a 109 ((((σ.i 99) - 1) : Int32).toNatClampNeg))) 99 ((σ.i 99) - 1)) else (f_X12_leave N (RS.setI (RS.setI (RS.setI (RS.setI (RS.setI (RS.setI σ 110 (σ.a 105 ((((σ.i 99) - 1) : Int32).toNatClampNeg))) 111 (σ.a 106 ((((σ.i 99) - 1) : Int32).toNatClampNeg))) 112 (σ.a 107 ((((σ.i 99) - 1) : Int32).toNatClampNeg))) 113 (σ.a 108 ((((σ.i 99) - 1) : Int32).toNatClampNeg))) 114 (σ.a 109 ((((σ.i 99) - 1) : Int32).toNatClampNeg))) 99 ((σ.i 99) - 1))).bind fun p30 => some p30) else none else (if (σ.a 21 ((x1 : Int32).toNatClampNeg)) = 29 then if ib ((σ.i 99) - 1) 300 then (if (σ.a 105 ((((σ.i 99) - 1) : Int32).toNatClampNeg)) = 0 then some (RS.setI (RS.setI (RS.setI (RS.setI (RS.setI (RS.setI σ 110 (σ.a 105 ((((σ.i 99) - 1) : Int32).toNatClampNeg))) 111 (σ.a 106 ((((σ.i 99) - 1) : Int32).toNatClampNeg))) 112 (σ.a 107 ((((σ.i 99) - 1) : Int32).toNatClampNeg))) 113 (σ.a 108 ((((σ.i 99) - 1) : Int32).toNatClampNeg))) 114 (σ.a 109 ((((σ.i 99) - 1) : Int32).toNatClampNeg))) 99 ((σ.i 99) - 1)) else (f_X12_leave N (RS.setI (RS.setI (RS.setI (RS.setI (RS.setI (RS.setI σ 110 (σ.a 105 ((((σ.i 99) - 1) : Int32).toNatClampNeg))) 111 (σ.a 106 ((((σ.i 99) - 1) : Int32).toNatClampNeg))) 112 (σ.a 107 ((((σ.i 99) - 1) : Int32).toNatClampNeg))) 113 (σ.a 108 ((((σ.i 99) - 1) : Int32).toNatClampNeg))) 114 (σ.a 109 ((((σ.i 99) - 1) : Int32).toNatClampNeg))) 99 ((σ.i 99) - 1))).bind fun p35 => some p35) else none else (if (σ.a 21 ((x1 : Int32).toNatClampNeg)) = 30 then if ib ((σ.i 99) - 1) 300 then (if (σ.a 105 ((((σ.i 99) - 1) : Int32).toNatClampNeg)) = 0 then some (RS.setI (RS.setI (RS.setI (RS.setI (RS.setI (RS.setI σ 110 (σ.a 105 ((((σ.i 99) - 1) : Int32).toNatClampNeg))) 111 (σ.a 106 ((((σ.i 99) - 1) : Int32).toNatClampNeg))) 112 (σ.a 107 ((((σ.i 99) - 1) : Int32).toNatClampNeg))) 113 (σ.a 108 ((((σ.i 99) - 1) : Int32).toNatClampNeg))) 114 (σ.a 109 ((((σ.i 99) - 1) : Int32).toNatClampNeg))) 99 ((σ.i 99) - 1)) else (f_X12_leave N (RS.setI (RS.setI (RS.setI (RS.setI (RS.setI (RS.setI σ 110 (σ.a 105 ((((σ.i 99) - 1) : Int32).toNatClampNeg))) 111 (σ.a 106 ((((σ.i 99) - 1) : Int32).toNatClampNeg))) 112 (σ.a 107 ((((σ.i 99) - 1) : Int32).toNatClampNeg))) 113 (σ.a 108 ((((σ.i 99) - 1) : Int32).toNatClampNeg))) 114 (σ.a 109 ((((σ.i 99) - 1) : Int32).toNatClampNeg))) 99 ((σ.i 99) - 1))).bind fun p40 => some p40) else none else (if (σ.a 21 ((x1 : Int32).toNatClampNeg)) = 31 then (f_X12_record N σ 4 x2 0 (σ.i 95)).bind fun p43 => some p43.2 else (if (σ.a 21 ((x1 : Int32).toNatClampNeg)) = 32 then if ib x2 8 then (if (σ.a 6 ((x2 : Int32).toNatClampNeg)) ≤ 0 then (if (σ.a 5 ((x2 : Int32).toNatClampNeg)) = 0 then (f_X12_row N σ 1 x2).bind fun p49 => if ib (p49.i 95) 460 then some (RS.setI (RS.setA p49 96 (((p49.i 95) : Int32).toNatClampNeg) x2) 95 ((p49.i 95) + 1)) else none else some σ) else (f_X12_raise N σ ((σ.a 6 ((x2 : Int32).toNatClampNeg)) - 1) x2).bind fun p52 => (f_X12_leave N p52).bind fun p54 => some p54) else none else (if (σ.a 21 ((x1 : Int32).toNatClampNeg)) = 33 then (f_X12_closeAll N (RS.setI σ 110 0) ((σ.i 99) - 1)).bind fun p57 => (if (p57.i 110) = 3 then (f_X12_leave N p57).bind fun p62 => some p62 else (f_X12_goOn N p57 ((σ.i 99) - 1)).bind fun p60 => some p60) else (if (σ.a 21 ((x1 : Int32).toNatClampNeg)) = 34 then (f_X12_goOn N (RS.setI σ 110 0) ((σ.i 99) - 1)).bind fun p65 => some p65 else if ib ((σ.i 99) - 1) 300 then (if (σ.a 105 ((((σ.i 99) - 1) : Int32).toNatClampNeg)) = 0 then some (RS.setI (RS.setI (RS.setI (RS.setI (RS.setI (RS.setI σ 110 (σ.a 105 ((((σ.i 99) - 1) : Int32).toNatClampNeg))) 111 (σ.a 106 ((((σ.i 99) - 1) : Int32).toNatClampNeg))) 112 (σ.a 107 ((((σ.i 99) - 1) : Int32).toNatClampNeg))) 113 (σ.a 108 ((((σ.i 99) - 1) : Int32).toNatClampNeg))) 114 (σ.a 109 ((((σ.i 99) - 1) : Int32).toNatClampNeg))) 99 ((σ.i 99) - 1)) else (f_X12_leave N (RS.setI (RS.setI (RS.setI (RS.setI (RS.setI (RS.setI σ 110 (σ.a 105 ((((σ.i 99) - 1) : Int32).toNatClampNeg))) 111 (σ.a 106 ((((σ.i 99) - 1) : Int32).toNatClampNeg))) 112 (σ.a 107 ((((σ.i 99) - 1) : Int32).toNatClampNeg))) 113 (σ.a 108 ((((σ.i 99) - 1) : Int32).toNatClampNeg))) 114 (σ.a 109 ((((σ.i 99) - 1) : Int32).toNatClampNeg))) 99 ((σ.i 99) - 1))).bind fun p69 => some p69) else none)))))))))))) else none
def f_X12_ends_128 (N : Nat) (σ : RS) (x1 : Int32) : Option (RS) :=
  if ib x1 3000 then (f_X12_leave N (RS.setI σ 112 (σ.a 23 ((x1 : Int32).toNatClampNeg)))).bind fun p7 => some p7 else none
def f_X12_ends_242 (N : Nat) (σ : RS) : Option (RS) :=
  some σ
def f_X12_ends_351 (N : Nat) (σ : RS) : Option (RS) :=
  some σ
def f_X12_ends (N : Nat) (σ : RS) (x1 : Int32) (x2 : Int32) : Option (RS) :=
  if ib x1 3000 then (if (σ.a 21 ((x1 : Int32).toNatClampNeg)) = 17 then (f_X12_take N σ).bind fun p3 => (if (p3.2.a 21 ((x1 : Int32).toNatClampNeg)) = 17 then f_X12_ends_128 N (RS.setI (RS.setI p3.2 113 p3.1) 110 2) x1 else f_X12_ends_128 N (RS.setI (RS.setI p3.2 113 p3.1) 110 4) x1) else (if (σ.a 21 ((x1 : Int32).toNatClampNeg)) = 18 then (f_X12_take N σ).bind fun p10 => (if (p10.2.a 21 ((x1 : Int32).toNatClampNeg)) = 17 then f_X12_ends_128 N (RS.setI (RS.setI p10.2 113 p10.1) 110 2) x1 else f_X12_ends_128 N (RS.setI (RS.setI p10.2 113 p10.1) 110 4) x1) else (if (σ.a 21 ((x1 : Int32).toNatClampNeg)) = 19 then (f_X12_take N σ).bind fun p14 => (f_X12_raise N p14.2 x2 p14.1).bind fun p16 => (f_X12_leave N p16).bind fun p18 => some p18 else (if (σ.a 21 ((x1 : Int32).toNatClampNeg)) = 20 then (f_X12_raise N σ x2 0).bind fun p21 => (f_X12_leave N p21).bind fun p23 => some p23 else (if (σ.a 21 ((x1 : Int32).toNatClampNeg)) = 21 then if ib x2 460 then (f_X12_leave N (RS.setI (RS.setI σ 114 (σ.a 84 ((x2 : Int32).toNatClampNeg))) 110 3)).bind fun p27 => some p27 else none else (if (σ.a 21 ((x1 : Int32).toNatClampNeg)) = 22 then (if (σ.i 8) = 0 then f_X12_ends_242 N (RS.setI σ 92 x2) else f_X12_ends_242 N (RS.setI σ 92 (σ.i 92))) else (if (σ.a 21 ((x1 : Int32).toNatClampNeg)) = 23 then (f_X12_others N σ x1 x2).bind fun p32 => some p32 else (if (σ.a 21 ((x1 : Int32).toNatClampNeg)) = 24 then (f_X12_others N σ x1 x2).bind fun p35 => some p35 else (if (σ.a 21 ((x1 : Int32).toNatClampNeg)) = 25 then (f_X12_others N σ x1 x2).bind fun p38 => some p38 else (if (σ.a 21 ((x1 : Int32).toNatClampNeg)) = 26 then (f_X12_row N σ 3 x2).bind fun p41 => if ib x2 8 then (f_X12_record N (RS.setA p41 91 ((x2 : Int32).toNatClampNeg) ((p41.a 91 ((x2 : Int32).toNatClampNeg)) + 1)) 1 x2 0 0).bind fun p44 => some p44.2 else none else (if (σ.a 21 ((x1 : Int32).toNatClampNeg)) = 27 then if ib ((σ.i 99) - 1) 300 then (f_X12_row N (RS.setI σ 99 ((σ.i 99) - 1)) 4 (σ.a 101 ((((σ.i 99) - 1) : Int32).toNatClampNeg))).bind fun p48 => if ib (p48.i 99) 300 then if ib (p48.a 101 (((p48.i 99) : Int32).toNatClampNeg)) 8 then some (RS.setA p48 91 (((p48.a 101 (((p48.i 99) : Int32).toNatClampNeg)) : Int32).toNatClampNeg) ((p48.a 91 (((p48.a 101 (((p48.i 99) : Int32).toNatClampNeg)) : Int32).toNatClampNeg)) - 1)) else none else none else none else (if (σ.a 21 ((x1 : Int32).toNatClampNeg)) = 28 then (f_X12_take N σ).bind fun p53 => (f_X12_caseOf N p53.2 x2 p53.1).bind fun p55 => (if 0 ≤ p55.1 then if ib p55.1 500 then f_X12_ends_351 N (RS.setI p55.2 92 (p55.2.a 26 ((p55.1 : Int32).toNatClampNeg))) else none else f_X12_ends_351 N (RS.setI p55.2 92 (p55.2.a 23 ((x1 : Int32).toNatClampNeg)))) else (if (σ.a 21 ((x1 : Int32).toNatClampNeg)) = 29 then (f_X12_take N σ).bind fun p60 => (f_X12_caseOf N p60.2 x2 p60.1).bind fun p62 => (f_X12_record N p62.2 3 x1 0 0).bind fun p64 => if ib p62.1 500 then some (RS.setI p64.2 92 (p64.2.a 26 ((p62.1 : Int32).toNatClampNeg))) else none else (if (σ.a 21 ((x1 : Int32).toNatClampNeg)) = 30 then if ib ((σ.i 99) - 1) 300 then if ib (σ.a 101 ((((σ.i 99) - 1) : Int32).toNatClampNeg)) 3000 then some (RS.setI (RS.setI σ 99 ((σ.i 99) - 1)) 92 (σ.a 23 (((σ.a 101 ((((σ.i 99) - 1) : Int32).toNatClampNeg)) : Int32).toNatClampNeg))) else none else none else (if (σ.a 21 ((x1 : Int32).toNatClampNeg)) = 31 then (f_X12_others N σ x1 x2).bind fun p71 => some p71 else (if (σ.a 21 ((x1 : Int32).toNatClampNeg)) = 32 then (f_X12_others N σ x1 x2).bind fun p74 => some p74 else (if (σ.a 21 ((x1 : Int32).toNatClampNeg)) = 33 then (f_X12_others N σ x1 x2).bind fun p77 => some p77 else (if (σ.a 21 ((x1 : Int32).toNatClampNeg)) = 34 then (f_X12_others N σ x1 x2).bind fun p80 => some p80 else (if (σ.a 21 ((x1 : Int32).toNatClampNeg)) = 35 then (f_X12_others N σ x1 x2).bind fun p83 => some p83 else (if (σ.a 21 ((x1 : Int32).toNatClampNeg)) = 36 then (f_X12_leave N (RS.setI (RS.setI (RS.setI σ 110 1) 111 x2) 112 (σ.a 23 ((x1 : Int32).toNatClampNeg)))).bind fun p86 => some p86 else (f_X12_others N σ x1 x2).bind fun p88 => some p88)))))))))))))))))))) else none
def f_X12_act_229 (N : Nat) (σ : RS) (x2 : Int32) (x3 : Int32) (x4 : Int32) : Option (RS) :=
  (f_X12_compute N σ x2 x4 x3).bind fun p35 => (f_X12_put N p35.2 p35.1).bind fun p37 => some p37
def f_X12_act_212 (N : Nat) (σ : RS) (x2 : Int32) (x3 : Int32) (x4 : Int32) : Option (RS) :=
  (if x3 = 0 then (f_X12_raise N σ 2 0).bind fun p39 => (f_X12_leave N p39).bind fun p41 => some p41 else f_X12_act_229 N σ x2 x3 x4)
def f_X12_act_290 (N : Nat) (σ : RS) : Option (RS) :=
  some (RS.setI σ 93 ((σ.i 93) - 1))
def f_X12_act_282 (N : Nat) (σ : RS) (x2 : Int32) : Option (RS) :=
  some (RS.setI σ 92 x2)
def f_X12_act_322 (N : Nat) (σ : RS) : Option (RS) :=
  some σ
def f_X12_act_344 (N : Nat) (σ : RS) : Option (RS) :=
  some σ
def f_X12_act (N : Nat) (σ : RS) (x1 : Int32) : Option (RS) :=
  if ib x1 3000 then (if (σ.a 21 ((x1 : Int32).toNatClampNeg)) = 1 then (f_X12_step N σ).bind fun p3 => some p3 else (if (σ.a 21 ((x1 : Int32).toNatClampNeg)) = 2 then (f_X12_put N σ (σ.a 22 ((x1 : Int32).toNatClampNeg))).bind fun p6 => some p6 else (if (σ.a 21 ((x1 : Int32).toNatClampNeg)) = 3 then if ib (σ.a 22 ((x1 : Int32).toNatClampNeg)) 460 then (f_X12_put N σ (σ.a 84 (((σ.a 22 ((x1 : Int32).toNatClampNeg)) : Int32).toNatClampNeg))).bind fun p10 => some p10 else none else (if (σ.a 21 ((x1 : Int32).toNatClampNeg)) = 4 then if ib (σ.a 22 ((x1 : Int32).toNatClampNeg)) 460 then if ib (σ.a 84 (((σ.a 22 ((x1 : Int32).toNatClampNeg)) : Int32).toNatClampNeg)) 3200 then (f_X12_put N σ (σ.a 87 (((σ.a 84 (((σ.a 22 ((x1 : Int32).toNatClampNeg)) : Int32).toNatClampNeg)) : Int32).toNatClampNeg))).bind fun p15 => some p15 else none else none else (if (σ.a 21 ((x1 : Int32).toNatClampNeg)) = 5 then (f_X12_take N σ).bind fun p18 => if ib (σ.a 22 ((x1 : Int32).toNatClampNeg)) 460 then some (RS.setA p18.2 84 (((σ.a 22 ((x1 : Int32).toNatClampNeg)) : Int32).toNatClampNeg) p18.1) else none else (if (σ.a 21 ((x1 : Int32).toNatClampNeg)) = 6 then if ib (σ.a 22 ((x1 : Int32).toNatClampNeg)) 460 then some (RS.setA σ 84 (((σ.a 22 ((x1 : Int32).toNatClampNeg)) : Int32).toNatClampNeg) ((σ.a 84 (((σ.a 22 ((x1 : Int32).toNatClampNeg)) : Int32).toNatClampNeg)) + 1)) else none else (if (σ.a 21 ((x1 : Int32).toNatClampNeg)) = 7 then (f_X12_take N σ).bind fun p24 => (f_X12_put N p24.2 (-p24.1)).bind fun p26 => some p26 else (if (σ.a 21 ((x1 : Int32).toNatClampNeg)) = 8 then (f_X12_take N σ).bind fun p29 => (f_X12_take N p29.2).bind fun p31 => (if (σ.a 22 ((x1 : Int32).toNatClampNeg)) = 47 then f_X12_act_212 N p31.2 (σ.a 22 ((x1 : Int32).toNatClampNeg)) p29.1 p31.1 else (if (σ.a 22 ((x1 : Int32).toNatClampNeg)) = 37 then f_X12_act_212 N p31.2 (σ.a 22 ((x1 : Int32).toNatClampNeg)) p29.1 p31.1 else f_X12_act_229 N p31.2 (σ.a 22 ((x1 : Int32).toNatClampNeg)) p29.1 p31.1)) else (if (σ.a 21 ((x1 : Int32).toNatClampNeg)) = 9 then (f_X12_take N σ).bind fun p45 => (f_X12_take N p45.2).bind fun p47 => (if (σ.a 22 ((x1 : Int32).toNatClampNeg)) = 47 then f_X12_act_212 N p47.2 (σ.a 22 ((x1 : Int32).toNatClampNeg)) p45.1 p47.1 else (if (σ.a 22 ((x1 : Int32).toNatClampNeg)) = 37 then f_X12_act_212 N p47.2 (σ.a 22 ((x1 : Int32).toNatClampNeg)) p45.1 p47.1 else f_X12_act_229 N p47.2 (σ.a 22 ((x1 : Int32).toNatClampNeg)) p45.1 p47.1)) else (if (σ.a 21 ((x1 : Int32).toNatClampNeg)) = 10 then (f_X12_take N σ).bind fun p52 => (f_X12_put N p52.2 (1 - p52.1)).bind fun p54 => some p54 else (if (σ.a 21 ((x1 : Int32).toNatClampNeg)) = 11 then if ib ((σ.i 93) - 1) 1400 then (if (σ.a 94 ((((σ.i 93) - 1) : Int32).toNatClampNeg)) = 0 then f_X12_act_290 N σ else f_X12_act_282 N σ (σ.a 22 ((x1 : Int32).toNatClampNeg))) else none else (if (σ.a 21 ((x1 : Int32).toNatClampNeg)) = 12 then if ib ((σ.i 93) - 1) 1400 then (if (σ.a 94 ((((σ.i 93) - 1) : Int32).toNatClampNeg)) = 0 then f_X12_act_282 N σ (σ.a 22 ((x1 : Int32).toNatClampNeg)) else f_X12_act_290 N σ) else none else (if (σ.a 21 ((x1 : Int32).toNatClampNeg)) = 13 then (f_X12_take N σ).bind fun p67 => (if p67.1 = 0 then f_X12_act_322 N (RS.setI p67.2 92 (σ.a 22 ((x1 : Int32).toNatClampNeg))) else f_X12_act_322 N (RS.setI p67.2 92 (p67.2.i 92))) else (if (σ.a 21 ((x1 : Int32).toNatClampNeg)) = 14 then (f_X12_take N σ).bind fun p71 => (if p71.1 = 0 then f_X12_act_344 N (RS.setI p71.2 92 (p71.2.i 92)) else f_X12_act_344 N (RS.setI p71.2 92 (σ.a 22 ((x1 : Int32).toNatClampNeg)))) else (if (σ.a 21 ((x1 : Int32).toNatClampNeg)) = 15 then some (RS.setI σ 92 (σ.a 22 ((x1 : Int32).toNatClampNeg))) else (if (σ.a 21 ((x1 : Int32).toNatClampNeg)) = 16 then (f_X12_take N σ).bind fun p76 => (f_X12_row N p76.2 0 p76.1).bind fun p78 => some p78 else (f_X12_ends N σ x1 (σ.a 22 ((x1 : Int32).toNatClampNeg))).bind fun p80 => some p80)))))))))))))))) else none
def f_X12_run_163 (N : Nat) (σ : RS) : Option (Int32 × RS) :=
  (if (σ.i 115) = 2 then some (1, σ) else (if (σ.i 115) = 3 then some (2, σ) else (if (σ.i 115) = 5 then some (3, σ) else some (0, σ))))
def b_X12_run_122 (N : Nat) (K : RS → Option (Int32 × RS)) (σ : RS) : Option (Int32 × RS) :=
  (if (σ.i 92) < 0 then f_X12_run_163 N σ else (if (σ.i 20) ≤ (σ.i 92) then f_X12_run_163 N σ else (f_X12_act N (RS.setI σ 92 ((σ.i 92) + 1)) (σ.i 92)).bind fun p9 => K p9))
def f_X12_run_122 (N : Nat) : Nat → RS → Option (Int32 × RS)
  | 0 => fun _ => none
  | n+1 => b_X12_run_122 N (f_X12_run_122 N n)
def b_X12_run_39 (N : Nat) (K : RS → Int32 → Int32 → Int32 → Option (Int32 × RS)) (σ : RS) (x1 : Int32) (x2 : Int32) (x3 : Int32) : Option (Int32 × RS) :=
  (if 8 ≤ x3 then f_X12_run_122 N N (RS.setI (RS.setI (RS.setI (RS.setI (RS.setI (RS.setI (RS.setI (RS.setI (RS.setI (RS.setI (RS.setA (RS.setA σ 84 ((0 : Int32).toNatClampNeg) x1) 84 ((1 : Int32).toNatClampNeg) x2) 80 0) 81 0) 85 0) 95 0) 97 0) 99 0) 93 0) 79 1) 115 0) 92 0) else if ib x3 8 then K (RS.setA σ 91 ((x3 : Int32).toNatClampNeg) 0) x1 x2 (x3 + 1) else none)
def f_X12_run_39 (N : Nat) : Nat → RS → Int32 → Int32 → Int32 → Option (Int32 × RS)
  | 0 => fun _ _ _ _ => none
  | n+1 => b_X12_run_39 N (f_X12_run_39 N n)
def b_X12_run_17 (N : Nat) (K : RS → Int32 → Int32 → Int32 → Option (Int32 × RS)) (σ : RS) (x1 : Int32) (x2 : Int32) (x3 : Int32) : Option (Int32 × RS) :=
  (if 460 ≤ x3 then f_X12_run_39 N N σ x1 x2 0 else if ib x3 460 then K (RS.setA σ 84 ((x3 : Int32).toNatClampNeg) 0) x1 x2 (x3 + 1) else none)
def f_X12_run_17 (N : Nat) : Nat → RS → Int32 → Int32 → Int32 → Option (Int32 × RS)
  | 0 => fun _ _ _ _ => none
  | n+1 => b_X12_run_17 N (f_X12_run_17 N n)
def f_X12_run (N : Nat) (σ : RS) (x1 : Int32) (x2 : Int32) : Option (Int32 × RS) :=
  (if (σ.i 77) = 0 then some ((-3), RS.setI σ 0 0) else f_X12_run_17 N N (RS.setI σ 0 0) x1 x2 0)
def b_X12_ran_168 (N : Nat) (K : RS → Int32 → Int32 → Option (Int32 × RS)) (σ : RS) (x3 : Int32) (x4 : Int32) : Option (Int32 × RS) :=
  (if 8 ≤ x4 then some (x3, σ) else if ib x4 8 then K σ (x3 + (σ.a 91 ((x4 : Int32).toNatClampNeg))) (x4 + 1) else none)
def f_X12_ran_168 (N : Nat) : Nat → RS → Int32 → Int32 → Option (Int32 × RS)
  | 0 => fun _ _ _ => none
  | n+1 => b_X12_ran_168 N (f_X12_ran_168 N n)
def f_X12_ran_41 (N : Nat) (σ : RS) (x1 : Int32) (x2 : Int32) : Option (Int32 × RS) :=
  (if x1 = 0 then some ((σ.i 80), σ) else (if x1 = 1 then some ((σ.i 81), σ) else (if x1 = 2 then (if (σ.i 115) = 2 then some ((σ.i 113), σ) else some (0, σ)) else (if x1 = 3 then (if x2 = 0 then some ((-1), σ) else if ib (σ.i 114) 3200 then some ((σ.a 86 (((σ.i 114) : Int32).toNatClampNeg)), σ) else none) else (if x1 = 4 then (if x2 = 0 then some (0, σ) else if ib (σ.i 114) 3200 then some ((σ.a 87 (((σ.i 114) : Int32).toNatClampNeg)), σ) else none) else (if x1 = 5 then (if x2 = 0 then some (0, σ) else if ib (σ.i 114) 3200 then some ((σ.a 88 (((σ.i 114) : Int32).toNatClampNeg)), σ) else none) else f_X12_ran_168 N N σ 0 0))))))
def f_X12_ran (N : Nat) (σ : RS) (x1 : Int32) : Option (Int32 × RS) :=
  (f_X12_in N (RS.setI σ 0 0) x1 0 6).bind fun p1 => (if p1.1 = 0 then some ((-1), p1.2) else (if (p1.2.i 79) = 0 then some ((-3), p1.2) else (if (p1.2.i 115) = 3 then f_X12_ran_41 N p1.2 x1 1 else f_X12_ran_41 N p1.2 x1 0)))
def f_X12_trace_35 (N : Nat) (σ : RS) : Option (Int32 × RS) :=
  some ((-1), σ)
def f_X12_trace (N : Nat) (σ : RS) (x1 : Int32) (x2 : Int32) : Option (Int32 × RS) :=
  (if (σ.i 79) = 0 then f_X12_trace_35 N (RS.setI σ 0 0) else (f_X12_in N (RS.setI σ 0 0) x1 0 ((σ.i 81) - 1)).bind fun p2 => (if p2.1 = 0 then f_X12_trace_35 N p2.2 else (f_X12_in N p2.2 x2 0 1).bind fun p5 => (if p5.1 = 0 then f_X12_trace_35 N p5.2 else (if x2 = 0 then if ib x1 200 then some ((p5.2.a 82 ((x1 : Int32).toNatClampNeg)), p5.2) else none else if ib x1 200 then some ((p5.2.a 83 ((x1 : Int32).toNatClampNeg)), p5.2) else none))))
def f_X12_suppressed_48 (N : Nat) (σ : RS) : Option (Int32 × RS) :=
  some ((-1), σ)
def f_X12_suppressed (N : Nat) (σ : RS) (x1 : Int32) (x2 : Int32) : Option (Int32 × RS) :=
  (if (σ.i 79) = 0 then f_X12_suppressed_48 N (RS.setI σ 0 0) else (if (σ.i 115) = 3 then if ib (σ.i 114) 3200 then (f_X12_in N (RS.setI σ 0 0) x1 0 ((σ.a 88 (((σ.i 114) : Int32).toNatClampNeg)) - 1)).bind fun p4 => (if p4.1 = 0 then f_X12_suppressed_48 N p4.2 else (f_X12_in N p4.2 x2 0 1).bind fun p7 => (if p7.1 = 0 then f_X12_suppressed_48 N p7.2 else (if x2 = 0 then if ib ((8 * (p7.2.i 114)) + x1) 25600 then some ((p7.2.a 89 ((((8 * (p7.2.i 114)) + x1) : Int32).toNatClampNeg)), p7.2) else none else if ib ((8 * (p7.2.i 114)) + x1) 25600 then some ((p7.2.a 90 ((((8 * (p7.2.i 114)) + x1) : Int32).toNatClampNeg)), p7.2) else none))) else none else f_X12_suppressed_48 N (RS.setI σ 0 0)))
def f_X12_rounds_13 (N : Nat) (σ : RS) : Option (Int32 × RS) :=
  some ((-1), σ)
def f_X12_rounds (N : Nat) (σ : RS) (x1 : Int32) (x2 : Int32) : Option (Int32 × RS) :=
  (if x1 < 0 then f_X12_rounds_13 N (RS.setI σ 0 0) else (if 0 ≤ x2 then (if x2 = 0 then some (0, RS.setI (RS.setI σ 0 0) 0 1) else if x2 = 0 then none else (if (x1 - x1 / x2 * x2) ≤ 0 then some (((x1 / x2) + 0), RS.setI σ 0 0) else some (((x1 / x2) + 1), RS.setI σ 0 0))) else f_X12_rounds_13 N (RS.setI σ 0 0)))
end
section
set_option maxHeartbeats 4000000 in
set_option maxRecDepth 100000 in
theorem j_X12_in_14 {p : Program} {e : Env} {s : State} {m : MethodId} {args : Array Value} {below : List Frame} {meth : Method} {c : Code} {A : Nat → Prop} (l : Launch) (dC : Nat → ClassId) (dI : Nat → Nat → Nat) (Q : RQ) (N : Nat) (R : Int32 × RS) (hx : p.tables.exec = Jvm.exec) (hb : c.code = cX12_in) (hr : meth.sig.returnType = (some .boolean)) (hml : c.maxLocals = 3) (hown : s.vm.findClass RX12 = some m.cls) (hts : ∀ w ∈ wzX12_in, w.before args s = true) (hlocks : meth.locks = false) (hZ : zAMB s) (hA : ∀ q : Nat, s.heap.size ≤ q → A q) (hK : va_K (dC, dI) vwCl (rT Q) s) : ∀ (σ : RS) (H : Heap) (locs : List Loc) (ls : Array Slot), f_X12_in_14 N σ = some R → va_P (dC, dI) vwCl (rW Q σ) H → va_D A (rW Q σ) → va_S A s.heap H locs → lv_has ls 3 [] → W p l e ({ frames := 1, cells := 0, slots := 0, locals := 60 }) s m args below meth c H locs 0 0 (MQ below (va_Qi (fun (r : Int32) (_ : Unit) => r = R.1) (fun (_ : Unit) (t : State) => zPost dC dI A (rW Q R.2) (rT Q) t) A) args s 0 0 A) (F0 m 14 ls []) := by
  intro σ  H locs ls hf hP hD hS hl
  unfold f_X12_in_14 at hf
  refine lv_iconst (v := 0) hx hb dX12_in_14 (by decide) ?_
  obtain rfl := Option.some.inj hf
  exact W.zret (v := 0) hx hb hr (rfl) (fun t ht hW => ⟨⟨0, (), rfl, rfl, by rw [ht]; exact hP, va_K.moved hW.alike hK, hD⟩, hS.F ht⟩) hS.2.2 dX12_in_15
set_option maxHeartbeats 4000000 in
set_option maxRecDepth 100000 in
theorem c_X12_in (l : Launch) (dC : Nat → ClassId) (dI : Nat → Nat → Nat) (sz : Nat) (Q : RQ) (N : Nat) (σ : RS) (x0 : Int32) (x1 : Int32) (x2 : Int32) (R : Int32 × RS) (hf : f_X12_in N σ x0 x1 x2 = some R) : Met l yX12_in wzX12_in ({ frames := 1, cells := 0, slots := 0, locals := 60 }) (va_Pc [.int x0, .int x1, .int x2] (zPre dC dI sz (rW Q σ) (rT Q))) (va_Qi (fun (r : Int32) (_ : Unit) => r = R.1) (fun (_ : Unit) (t : State) => zPost dC dI (va_A (rW Q σ) sz) (rW Q R.2) (rT Q) t) (va_A (rW Q σ) sz)) 0 0 (va_A (rW Q σ) sz) := by
  refine Met.ofW (cc := cX12_in) (maxL := 3) (ret := (some .boolean)) (by decide) rfl ?_
  intro p e s m args below meth c s₁ B hml hv
  obtain ⟨rfl, hsz, hZ, hP, hK, hD0⟩ := hv
  have hx := B.exec
  have hb := B.bytes
  have hr := B.returns
  have hts := atoms_spec (ws := wzX12_in) B.pre
  have hown : s.vm.findClass RX12 = some m.cls := findClass_of_methodNamed B.named
  have hlocks := B.notSynchronized
  subst hsz
  have hD := hD0.self (sz := s.heap.size)
  generalize hAe : va_A (rW Q σ) s.heap.size = A at hD ⊢
  have hA : ∀ q : Nat, s.heap.size ≤ q → A q := fun q h => by rw [← hAe]; exact Or.inr h
  have hS : va_S A s.heap s.heap [] := va_S.rf
  have hl := lv_entry ([.int x0, .int x1, .int x2]) (n := 3) (Nat.le_of_ble_eq_true rfl)
  rw [lg_entry_eq]
  generalize (lg_sl ([.int x0, .int x1, .int x2]) ++ List.replicate (3 - (lg_sl ([.int x0, .int x1, .int x2])).length) Slot.unset).toArray = ls at hl ⊢
  have hl : lv_has ls 3 [(0, .int x0), (1, .int x1), (2, .int x2)] := hl
  unfold f_X12_in at hf
  refine lv_iload_n hx hb dX12_in_0 rfl (lv_at hl 0 rfl) ?_
  refine lv_iload_n hx hb dX12_in_1 rfl (lv_at hl 1 rfl) ?_
  refine lv_icmp_lt (tgt := 14) hx hb dX12_in_2 (by decide) (fun c1 => ?_) (fun c1 => ?_)
  ·
    replace hf := (if_pos c1).symm.trans hf
    exact j_X12_in_14 l dC dI Q N R hx hb hr hml hown hts hlocks hZ hA hK σ _ _ _ hf hP hD hS (lv_sub hl [] rfl)
  ·
    replace hf := (if_neg c1).symm.trans hf
    refine lv_iload_n hx hb dX12_in_5 rfl (lv_at hl 0 rfl) ?_
    refine lv_iload_n hx hb dX12_in_6 rfl (lv_at hl 2 rfl) ?_
    refine lv_icmp_gt (tgt := 14) hx hb dX12_in_7 (by decide) (fun c2 => ?_) (fun c2 => ?_)
    ·
      replace hf := (if_pos c2).symm.trans hf
      exact j_X12_in_14 l dC dI Q N R hx hb hr hml hown hts hlocks hZ hA hK σ _ _ _ hf hP hD hS (lv_sub hl [] rfl)
    ·
      replace hf := (if_neg c2).symm.trans hf
      refine lv_iconst (v := 1) hx hb dX12_in_10 (by decide) ?_
      refine lv_goto (tgt := 15) hx hb dX12_in_11 (by decide) ?_
      obtain rfl := Option.some.inj hf
      exact W.zret (v := 1) hx hb hr (rfl) (fun t ht hW => ⟨⟨1, (), rfl, rfl, by rw [ht]; exact hP, va_K.moved hW.alike hK, hD⟩, hS.F ht⟩) hS.2.2 dX12_in_15
theorem k_X12_feed_fieldLink_RX12_273_SRModel_thrown_I : Cond.fieldLink RX12 273 "StatementRules2Model" "thrown" "I" ∈ wzX12_feed := List.mem_cons_of_mem _ (List.mem_append_left _ (List.mem_of_getElem? (i := 0) rfl))
theorem i_X12_feed_X12 : ∀ w ∈ wsX120, w ∈ wzX12_feed := fun _ h => List.mem_cons_of_mem _ (List.mem_append_right _ (List.mem_append_left _ (h)))
theorem k_X12_feed_fieldLink_RX12_276_SRModel_taped_I : Cond.fieldLink RX12 276 "StatementRules2Model" "taped" "I" ∈ wzX12_feed := List.mem_cons_of_mem _ (List.mem_append_left _ (List.mem_of_getElem? (i := 1) rfl))
theorem k_X12_feed_fieldLink_RX12_7_SRModel_tape_I : Cond.fieldLink RX12 7 "StatementRules2Model" "tape" "[I" ∈ wzX12_feed := List.mem_cons_of_mem _ (List.mem_append_left _ (List.mem_of_getElem? (i := 2) rfl))
set_option maxHeartbeats 4000000 in
set_option maxRecDepth 100000 in
theorem j_X12_feed_24 {p : Program} {e : Env} {s : State} {m : MethodId} {args : Array Value} {below : List Frame} {meth : Method} {c : Code} {A : Nat → Prop} (l : Launch) (dC : Nat → ClassId) (dI : Nat → Nat → Nat) (Q : RQ) (N : Nat) (R : Int32 × RS) (hx : p.tables.exec = Jvm.exec) (hb : c.code = cX12_feed) (hr : meth.sig.returnType = (some .int)) (hml : c.maxLocals = 8) (hown : s.vm.findClass RX12 = some m.cls) (hts : ∀ w ∈ wzX12_feed, w.before args s = true) (hlocks : meth.locks = false) (hZ : zAMB s) (hA : ∀ q : Nat, s.heap.size ≤ q → A q) (hK : va_K (dC, dI) vwCl (rT Q) s) : ∀ (n9 : Nat), ∀ (σ : RS) (x1 : Int32) (x2 : Int32) (x3 : Int32) (x4 : Int32) (x5 : Int32) (x6 : Int32) (H : Heap) (locs : List Loc) (ls : Array Slot), f_X12_feed_24 N n9 σ x1 x2 x3 x4 x5 x6 = some R → va_P (dC, dI) vwCl (rW Q σ) H → va_D A (rW Q σ) → va_S A s.heap H locs → lv_has ls 8 [(0, .ref Q.h0), (1, .int x1), (2, .int x2), (3, .int x3), (4, .int x4), (5, .int x5), (6, .int x6)] → W p l e ({ frames := 1, cells := 0, slots := 0, locals := 60 }) s m args below meth c H locs 0 0 (MQ below (va_Qi (fun (r : Int32) (_ : Unit) => r = R.1) (fun (_ : Unit) (t : State) => zPost dC dI A (rW Q R.2) (rT Q) t) A) args s 0 0 A) (F0 m 24 ls []) := by
  intro n9
  induction n9 with
  | zero => intro σ x1 x2 x3 x4 x5 x6 H locs ls hf; exact absurd hf (by intro h9; cases h9)
  | succ n9 ih =>
    intro σ x1 x2 x3 x4 x5 x6 H locs ls hf hP hD hS hl
    replace hf : b_X12_feed_24 N (f_X12_feed_24 N n9) σ x1 x2 x3 x4 x5 x6 = some R := hf
    unfold b_X12_feed_24 at hf
    refine lv_iload hx hb dX12_feed_24 (lv_at hl 6 rfl) ?_
    refine lv_bipush (v := 20) hx hb dX12_feed_26 (by decide) ?_
    refine lv_icmp_ge (tgt := 114) hx hb dX12_feed_28 (by decide) (fun c2 => ?_) (fun c2 => ?_)
    ·
      replace hf := (if_pos c2).symm.trans hf
      refine lv_aload_n hx hb dX12_feed_114 rfl (lv_at hl 0 rfl) ?_
      refine lv_dup hx hb dX12_feed_115 rfl ?_
      refine rG_2 (v := (σ.i 2)) hx hb hts i_X12_feed_X12 hown hK hP (hts (.fieldLink RX12 276 "StatementRules2Model" "taped" "I") k_X12_feed_fieldLink_RX12_276_SRModel_taped_I) dX12_feed_116 rfl ?_
      refine lv_bipush (v := 20) hx hb dX12_feed_119 (by decide) ?_
      refine lv_iadd hx hb dX12_feed_121 ?_
      refine rP_2 hx hb hts i_X12_feed_X12 hown hK hP hD hS (hts (.fieldLink RX12 276 "StatementRules2Model" "taped" "I") k_X12_feed_fieldLink_RX12_276_SRModel_taped_I) dX12_feed_122 (fun H locs hP hD hS => ?_)
      refine lv_aload_n hx hb dX12_feed_125 rfl (lv_at hl 0 rfl) ?_
      refine rG_2 (v := ((σ.i 2) + 20)) hx hb hts i_X12_feed_X12 hown hK hP (hts (.fieldLink RX12 276 "StatementRules2Model" "taped" "I") k_X12_feed_fieldLink_RX12_276_SRModel_taped_I) dX12_feed_126 rfl ?_
      obtain rfl := Option.some.inj hf
      exact W.iret (v := ((σ.i 2) + 20)) hx hb hr (fun t ht hW => ⟨⟨((σ.i 2) + 20), (), rfl, rfl, by rw [ht]; exact hP, va_K.moved hW.alike hK, hD⟩, hS.F ht⟩) hS.2.2 dX12_feed_129
    ·
      replace hf := (if_neg c2).symm.trans hf
      refine lv_iload hx hb dX12_feed_31 (lv_at hl 6 rfl) ?_
      refine lv_iconst (v := 4) hx hb dX12_feed_33 (by decide) ?_
      refine lv_icmp_ge (tgt := 41) hx hb dX12_feed_34 (by decide) (fun c3 => ?_) (fun c3 => ?_)
      ·
        replace hf := (if_pos c3).symm.trans hf
        refine lv_iload hx hb dX12_feed_41 (lv_at hl 6 rfl) ?_
        refine lv_bipush (v := 8) hx hb dX12_feed_43 (by decide) ?_
        refine lv_icmp_ge (tgt := 52) hx hb dX12_feed_45 (by decide) (fun c4 => ?_) (fun c4 => ?_)
        ·
          replace hf := (if_pos c4).symm.trans hf
          refine lv_iload hx hb dX12_feed_52 (lv_at hl 6 rfl) ?_
          refine lv_bipush (v := 12) hx hb dX12_feed_54 (by decide) ?_
          refine lv_icmp_ge (tgt := 63) hx hb dX12_feed_56 (by decide) (fun c5 => ?_) (fun c5 => ?_)
          ·
            replace hf := (if_pos c5).symm.trans hf
            refine lv_iload hx hb dX12_feed_63 (lv_at hl 6 rfl) ?_
            refine lv_bipush (v := 16) hx hb dX12_feed_65 (by decide) ?_
            refine lv_icmp_ge (tgt := 75) hx hb dX12_feed_67 (by decide) (fun c6 => ?_) (fun c6 => ?_)
            ·
              replace hf := (if_pos c6).symm.trans hf
              refine lv_iload hx hb dX12_feed_75 (lv_at hl 5 rfl) ?_
              refine lv_istore (lv' := [(7, .int x5), (0, .ref Q.h0), (1, .int x1), (2, .int x2), (3, .int x3), (4, .int x4), (5, .int x5), (6, .int x6)]) hx hb dX12_feed_77 hl (by decide) rfl (fun ls hl => ?_)
              refine lv_aload_n hx hb dX12_feed_79 rfl (lv_at hl 1 rfl) ?_
              refine rG_1 hx hb hts i_X12_feed_X12 hown hK hP (hts (.fieldLink RX12 7 "StatementRules2Model" "tape" "[I") k_X12_feed_fieldLink_RX12_7_SRModel_tape_I) dX12_feed_80 ?_
              refine lv_aload_n hx hb dX12_feed_83 rfl (lv_at hl 1 rfl) ?_
              refine rG_2 (v := (σ.i 2)) hx hb hts i_X12_feed_X12 hown hK hP (hts (.fieldLink RX12 276 "StatementRules2Model" "taped" "I") k_X12_feed_fieldLink_RX12_276_SRModel_taped_I) dX12_feed_84 rfl ?_
              refine lv_iload hx hb dX12_feed_87 (lv_at hl 7 rfl) ?_
              refine lv_iadd hx hb dX12_feed_89 ?_
              refine lv_iload hx hb dX12_feed_90 (lv_at hl 0 rfl) ?_
              refine lv_bipush (v := 24) hx hb dX12_feed_92 (by decide) ?_
              refine lv_bipush (v := 8) hx hb dX12_feed_94 (by decide) ?_
              refine lv_iload hx hb dX12_feed_96 (lv_at hl 7 rfl) ?_
              refine lv_iconst (v := 4) hx hb dX12_feed_98 (by decide) ?_
              refine lv_irem hx hb dX12_feed_99 (by decide) ?_
              refine lv_imul hx hb dX12_feed_100 ?_
              refine lv_isub hx hb dX12_feed_101 ?_
              refine lv_ishr hx hb dX12_feed_102 ?_
              refine lv_sipush (v := 255) hx hb dX12_feed_103 (by decide) ?_
              refine lv_iand hx hb dX12_feed_106 ?_
              obtain ⟨b7, hf⟩ := hf_ite hf
              refine rS_1 hx hb hK hP hD hS b7 dX12_feed_107 (fun H locs hP hD hS => ?_)
              refine lv_iinc (v := (x6 + 1)) (lv' := [(6, .int (x6 + 1)), (7, .int x5), (0, .ref Q.h0), (1, .int x1), (2, .int x2), (3, .int x3), (4, .int x4), (5, .int x5)]) hx hb dX12_feed_108 hl (k := 7) rfl rfl (by decide) rfl (fun ls hl => ?_)
              refine lv_goto (tgt := 24) hx hb dX12_feed_111 (by decide) ?_
              exact ih (RS.setA σ 1 ((((σ.i 2) + x6) : Int32).toNatClampNeg) ((x5 >>> ((24 - (8 * (x6 - x6 / 4 * 4))) &&& 31)) &&& 255)) x1 x2 x3 x4 x5 (x6 + 1) _ _ _ hf hP hD hS (lv_sub hl [2, 3, 4, 5, 6, 7, 0] rfl)
            ·
              replace hf := (if_neg c6).symm.trans hf
              refine lv_iload hx hb dX12_feed_70 (lv_at hl 4 rfl) ?_
              refine lv_goto (tgt := 77) hx hb dX12_feed_72 (by decide) ?_
              refine lv_istore (lv' := [(7, .int x4), (0, .ref Q.h0), (1, .int x1), (2, .int x2), (3, .int x3), (4, .int x4), (5, .int x5), (6, .int x6)]) hx hb dX12_feed_77 hl (by decide) rfl (fun ls hl => ?_)
              refine lv_aload_n hx hb dX12_feed_79 rfl (lv_at hl 1 rfl) ?_
              refine rG_1 hx hb hts i_X12_feed_X12 hown hK hP (hts (.fieldLink RX12 7 "StatementRules2Model" "tape" "[I") k_X12_feed_fieldLink_RX12_7_SRModel_tape_I) dX12_feed_80 ?_
              refine lv_aload_n hx hb dX12_feed_83 rfl (lv_at hl 1 rfl) ?_
              refine rG_2 (v := (σ.i 2)) hx hb hts i_X12_feed_X12 hown hK hP (hts (.fieldLink RX12 276 "StatementRules2Model" "taped" "I") k_X12_feed_fieldLink_RX12_276_SRModel_taped_I) dX12_feed_84 rfl ?_
              refine lv_iload hx hb dX12_feed_87 (lv_at hl 7 rfl) ?_
              refine lv_iadd hx hb dX12_feed_89 ?_
              refine lv_iload hx hb dX12_feed_90 (lv_at hl 0 rfl) ?_
              refine lv_bipush (v := 24) hx hb dX12_feed_92 (by decide) ?_
              refine lv_bipush (v := 8) hx hb dX12_feed_94 (by decide) ?_
              refine lv_iload hx hb dX12_feed_96 (lv_at hl 7 rfl) ?_
              refine lv_iconst (v := 4) hx hb dX12_feed_98 (by decide) ?_
              refine lv_irem hx hb dX12_feed_99 (by decide) ?_
              refine lv_imul hx hb dX12_feed_100 ?_
              refine lv_isub hx hb dX12_feed_101 ?_
              refine lv_ishr hx hb dX12_feed_102 ?_
              refine lv_sipush (v := 255) hx hb dX12_feed_103 (by decide) ?_
              refine lv_iand hx hb dX12_feed_106 ?_
              obtain ⟨b8, hf⟩ := hf_ite hf
              refine rS_1 hx hb hK hP hD hS b8 dX12_feed_107 (fun H locs hP hD hS => ?_)
              refine lv_iinc (v := (x6 + 1)) (lv' := [(6, .int (x6 + 1)), (7, .int x4), (0, .ref Q.h0), (1, .int x1), (2, .int x2), (3, .int x3), (4, .int x4), (5, .int x5)]) hx hb dX12_feed_108 hl (k := 7) rfl rfl (by decide) rfl (fun ls hl => ?_)
              refine lv_goto (tgt := 24) hx hb dX12_feed_111 (by decide) ?_
              exact ih (RS.setA σ 1 ((((σ.i 2) + x6) : Int32).toNatClampNeg) ((x4 >>> ((24 - (8 * (x6 - x6 / 4 * 4))) &&& 31)) &&& 255)) x1 x2 x3 x4 x5 (x6 + 1) _ _ _ hf hP hD hS (lv_sub hl [2, 3, 4, 5, 6, 7, 0] rfl)
          ·
            replace hf := (if_neg c5).symm.trans hf
            refine lv_iload_n hx hb dX12_feed_59 rfl (lv_at hl 3 rfl) ?_
            refine lv_goto (tgt := 77) hx hb dX12_feed_60 (by decide) ?_
            refine lv_istore (lv' := [(7, .int x3), (0, .ref Q.h0), (1, .int x1), (2, .int x2), (3, .int x3), (4, .int x4), (5, .int x5), (6, .int x6)]) hx hb dX12_feed_77 hl (by decide) rfl (fun ls hl => ?_)
            refine lv_aload_n hx hb dX12_feed_79 rfl (lv_at hl 1 rfl) ?_
            refine rG_1 hx hb hts i_X12_feed_X12 hown hK hP (hts (.fieldLink RX12 7 "StatementRules2Model" "tape" "[I") k_X12_feed_fieldLink_RX12_7_SRModel_tape_I) dX12_feed_80 ?_
            refine lv_aload_n hx hb dX12_feed_83 rfl (lv_at hl 1 rfl) ?_
            refine rG_2 (v := (σ.i 2)) hx hb hts i_X12_feed_X12 hown hK hP (hts (.fieldLink RX12 276 "StatementRules2Model" "taped" "I") k_X12_feed_fieldLink_RX12_276_SRModel_taped_I) dX12_feed_84 rfl ?_
            refine lv_iload hx hb dX12_feed_87 (lv_at hl 7 rfl) ?_
            refine lv_iadd hx hb dX12_feed_89 ?_
            refine lv_iload hx hb dX12_feed_90 (lv_at hl 0 rfl) ?_
            refine lv_bipush (v := 24) hx hb dX12_feed_92 (by decide) ?_
            refine lv_bipush (v := 8) hx hb dX12_feed_94 (by decide) ?_
            refine lv_iload hx hb dX12_feed_96 (lv_at hl 7 rfl) ?_
            refine lv_iconst (v := 4) hx hb dX12_feed_98 (by decide) ?_
            refine lv_irem hx hb dX12_feed_99 (by decide) ?_
            refine lv_imul hx hb dX12_feed_100 ?_
            refine lv_isub hx hb dX12_feed_101 ?_
            refine lv_ishr hx hb dX12_feed_102 ?_
            refine lv_sipush (v := 255) hx hb dX12_feed_103 (by decide) ?_
            refine lv_iand hx hb dX12_feed_106 ?_
            obtain ⟨b9, hf⟩ := hf_ite hf
            refine rS_1 hx hb hK hP hD hS b9 dX12_feed_107 (fun H locs hP hD hS => ?_)
            refine lv_iinc (v := (x6 + 1)) (lv' := [(6, .int (x6 + 1)), (7, .int x3), (0, .ref Q.h0), (1, .int x1), (2, .int x2), (3, .int x3), (4, .int x4), (5, .int x5)]) hx hb dX12_feed_108 hl (k := 7) rfl rfl (by decide) rfl (fun ls hl => ?_)
            refine lv_goto (tgt := 24) hx hb dX12_feed_111 (by decide) ?_
            exact ih (RS.setA σ 1 ((((σ.i 2) + x6) : Int32).toNatClampNeg) ((x3 >>> ((24 - (8 * (x6 - x6 / 4 * 4))) &&& 31)) &&& 255)) x1 x2 x3 x4 x5 (x6 + 1) _ _ _ hf hP hD hS (lv_sub hl [2, 3, 4, 5, 6, 7, 0] rfl)
        ·
          replace hf := (if_neg c4).symm.trans hf
          refine lv_iload_n hx hb dX12_feed_48 rfl (lv_at hl 2 rfl) ?_
          refine lv_goto (tgt := 77) hx hb dX12_feed_49 (by decide) ?_
          refine lv_istore (lv' := [(7, .int x2), (0, .ref Q.h0), (1, .int x1), (2, .int x2), (3, .int x3), (4, .int x4), (5, .int x5), (6, .int x6)]) hx hb dX12_feed_77 hl (by decide) rfl (fun ls hl => ?_)
          refine lv_aload_n hx hb dX12_feed_79 rfl (lv_at hl 1 rfl) ?_
          refine rG_1 hx hb hts i_X12_feed_X12 hown hK hP (hts (.fieldLink RX12 7 "StatementRules2Model" "tape" "[I") k_X12_feed_fieldLink_RX12_7_SRModel_tape_I) dX12_feed_80 ?_
          refine lv_aload_n hx hb dX12_feed_83 rfl (lv_at hl 1 rfl) ?_
          refine rG_2 (v := (σ.i 2)) hx hb hts i_X12_feed_X12 hown hK hP (hts (.fieldLink RX12 276 "StatementRules2Model" "taped" "I") k_X12_feed_fieldLink_RX12_276_SRModel_taped_I) dX12_feed_84 rfl ?_
          refine lv_iload hx hb dX12_feed_87 (lv_at hl 7 rfl) ?_
          refine lv_iadd hx hb dX12_feed_89 ?_
          refine lv_iload hx hb dX12_feed_90 (lv_at hl 0 rfl) ?_
          refine lv_bipush (v := 24) hx hb dX12_feed_92 (by decide) ?_
          refine lv_bipush (v := 8) hx hb dX12_feed_94 (by decide) ?_
          refine lv_iload hx hb dX12_feed_96 (lv_at hl 7 rfl) ?_
          refine lv_iconst (v := 4) hx hb dX12_feed_98 (by decide) ?_
          refine lv_irem hx hb dX12_feed_99 (by decide) ?_
          refine lv_imul hx hb dX12_feed_100 ?_
          refine lv_isub hx hb dX12_feed_101 ?_
          refine lv_ishr hx hb dX12_feed_102 ?_
          refine lv_sipush (v := 255) hx hb dX12_feed_103 (by decide) ?_
          refine lv_iand hx hb dX12_feed_106 ?_
          obtain ⟨b10, hf⟩ := hf_ite hf
          refine rS_1 hx hb hK hP hD hS b10 dX12_feed_107 (fun H locs hP hD hS => ?_)
          refine lv_iinc (v := (x6 + 1)) (lv' := [(6, .int (x6 + 1)), (7, .int x2), (0, .ref Q.h0), (1, .int x1), (2, .int x2), (3, .int x3), (4, .int x4), (5, .int x5)]) hx hb dX12_feed_108 hl (k := 7) rfl rfl (by decide) rfl (fun ls hl => ?_)
          refine lv_goto (tgt := 24) hx hb dX12_feed_111 (by decide) ?_
          exact ih (RS.setA σ 1 ((((σ.i 2) + x6) : Int32).toNatClampNeg) ((x2 >>> ((24 - (8 * (x6 - x6 / 4 * 4))) &&& 31)) &&& 255)) x1 x2 x3 x4 x5 (x6 + 1) _ _ _ hf hP hD hS (lv_sub hl [2, 3, 4, 5, 6, 7, 0] rfl)
      ·
        replace hf := (if_neg c3).symm.trans hf
        refine lv_iload_n hx hb dX12_feed_37 rfl (lv_at hl 1 rfl) ?_
        refine lv_goto (tgt := 77) hx hb dX12_feed_38 (by decide) ?_
        refine lv_istore (lv' := [(7, .int x1), (0, .ref Q.h0), (1, .int x1), (2, .int x2), (3, .int x3), (4, .int x4), (5, .int x5), (6, .int x6)]) hx hb dX12_feed_77 hl (by decide) rfl (fun ls hl => ?_)
        refine lv_aload_n hx hb dX12_feed_79 rfl (lv_at hl 1 rfl) ?_
        refine rG_1 hx hb hts i_X12_feed_X12 hown hK hP (hts (.fieldLink RX12 7 "StatementRules2Model" "tape" "[I") k_X12_feed_fieldLink_RX12_7_SRModel_tape_I) dX12_feed_80 ?_
        refine lv_aload_n hx hb dX12_feed_83 rfl (lv_at hl 1 rfl) ?_
        refine rG_2 (v := (σ.i 2)) hx hb hts i_X12_feed_X12 hown hK hP (hts (.fieldLink RX12 276 "StatementRules2Model" "taped" "I") k_X12_feed_fieldLink_RX12_276_SRModel_taped_I) dX12_feed_84 rfl ?_
        refine lv_iload hx hb dX12_feed_87 (lv_at hl 7 rfl) ?_
        refine lv_iadd hx hb dX12_feed_89 ?_
        refine lv_iload hx hb dX12_feed_90 (lv_at hl 0 rfl) ?_
        refine lv_bipush (v := 24) hx hb dX12_feed_92 (by decide) ?_
        refine lv_bipush (v := 8) hx hb dX12_feed_94 (by decide) ?_
        refine lv_iload hx hb dX12_feed_96 (lv_at hl 7 rfl) ?_
        refine lv_iconst (v := 4) hx hb dX12_feed_98 (by decide) ?_
        refine lv_irem hx hb dX12_feed_99 (by decide) ?_
        refine lv_imul hx hb dX12_feed_100 ?_
        refine lv_isub hx hb dX12_feed_101 ?_
        refine lv_ishr hx hb dX12_feed_102 ?_
        refine lv_sipush (v := 255) hx hb dX12_feed_103 (by decide) ?_
        refine lv_iand hx hb dX12_feed_106 ?_
        obtain ⟨b11, hf⟩ := hf_ite hf
        refine rS_1 hx hb hK hP hD hS b11 dX12_feed_107 (fun H locs hP hD hS => ?_)
        refine lv_iinc (v := (x6 + 1)) (lv' := [(6, .int (x6 + 1)), (7, .int x1), (0, .ref Q.h0), (1, .int x1), (2, .int x2), (3, .int x3), (4, .int x4), (5, .int x5)]) hx hb dX12_feed_108 hl (k := 7) rfl rfl (by decide) rfl (fun ls hl => ?_)
        refine lv_goto (tgt := 24) hx hb dX12_feed_111 (by decide) ?_
        exact ih (RS.setA σ 1 ((((σ.i 2) + x6) : Int32).toNatClampNeg) ((x1 >>> ((24 - (8 * (x6 - x6 / 4 * 4))) &&& 31)) &&& 255)) x1 x2 x3 x4 x5 (x6 + 1) _ _ _ hf hP hD hS (lv_sub hl [2, 3, 4, 5, 6, 7, 0] rfl)
set_option maxHeartbeats 4000000 in
set_option maxRecDepth 100000 in
theorem c_X12_feed (l : Launch) (dC : Nat → ClassId) (dI : Nat → Nat → Nat) (sz : Nat) (Q : RQ) (N : Nat) (σ : RS) (x1 : Int32) (x2 : Int32) (x3 : Int32) (x4 : Int32) (x5 : Int32) (R : Int32 × RS) (hf : f_X12_feed N σ x1 x2 x3 x4 x5 = some R) : Met l yX12_feed wzX12_feed ({ frames := 1, cells := 0, slots := 0, locals := 60 }) (va_Pc [.ref Q.h0, .int x1, .int x2, .int x3, .int x4, .int x5] (zPre dC dI sz (rW Q σ) (rT Q))) (va_Qi (fun (r : Int32) (_ : Unit) => r = R.1) (fun (_ : Unit) (t : State) => zPost dC dI (va_A (rW Q σ) sz) (rW Q R.2) (rT Q) t) (va_A (rW Q σ) sz)) 0 0 (va_A (rW Q σ) sz) := by
  refine Met.ofW (cc := cX12_feed) (maxL := 8) (ret := (some .int)) (by decide) rfl ?_
  intro p e s m args below meth c s₁ B hml hv
  obtain ⟨rfl, hsz, hZ, hP, hK, hD0⟩ := hv
  have hx := B.exec
  have hb := B.bytes
  have hr := B.returns
  have hts := atoms_spec (ws := wzX12_feed) B.pre
  have hown : s.vm.findClass RX12 = some m.cls := findClass_of_methodNamed B.named
  have hlocks := B.notSynchronized
  subst hsz
  have hD := hD0.self (sz := s.heap.size)
  generalize hAe : va_A (rW Q σ) s.heap.size = A at hD ⊢
  have hA : ∀ q : Nat, s.heap.size ≤ q → A q := fun q h => by rw [← hAe]; exact Or.inr h
  have hS : va_S A s.heap s.heap [] := va_S.rf
  have hl := lv_entry ([.ref Q.h0, .int x1, .int x2, .int x3, .int x4, .int x5]) (n := 8) (Nat.le_of_ble_eq_true rfl)
  rw [lg_entry_eq]
  generalize (lg_sl ([.ref Q.h0, .int x1, .int x2, .int x3, .int x4, .int x5]) ++ List.replicate (8 - (lg_sl ([.ref Q.h0, .int x1, .int x2, .int x3, .int x4, .int x5])).length) Slot.unset).toArray = ls at hl ⊢
  have hl : lv_has ls 8 [(0, .ref Q.h0), (1, .int x1), (2, .int x2), (3, .int x3), (4, .int x4), (5, .int x5)] := hl
  unfold f_X12_feed at hf
  refine lv_aload_n hx hb dX12_feed_0 rfl (lv_at hl 0 rfl) ?_
  refine lv_iconst (v := 0) hx hb dX12_feed_1 (by decide) ?_
  refine rP_0 hx hb hts i_X12_feed_X12 hown hK hP hD hS (hts (.fieldLink RX12 273 "StatementRules2Model" "thrown" "I") k_X12_feed_fieldLink_RX12_273_SRModel_thrown_I) dX12_feed_2 (fun H locs hP hD hS => ?_)
  refine lv_aload_n hx hb dX12_feed_5 rfl (lv_at hl 0 rfl) ?_
  refine rG_2 (v := (σ.i 2)) hx hb hts i_X12_feed_X12 hown hK hP (hts (.fieldLink RX12 276 "StatementRules2Model" "taped" "I") k_X12_feed_fieldLink_RX12_276_SRModel_taped_I) dX12_feed_6 rfl ?_
  refine lv_bipush (v := 20) hx hb dX12_feed_9 (by decide) ?_
  refine lv_iadd hx hb dX12_feed_11 ?_
  refine lv_sipush (v := 900) hx hb dX12_feed_12 (by decide) ?_
  refine lv_icmp_le (tgt := 21) hx hb dX12_feed_15 (by decide) (fun c1 => ?_) (fun c1 => ?_)
  ·
    replace hf := (if_pos c1).symm.trans hf
    refine lv_iconst (v := 0) hx hb dX12_feed_21 (by decide) ?_
    refine lv_istore (lv' := [(6, .int 0), (0, .ref Q.h0), (1, .int x1), (2, .int x2), (3, .int x3), (4, .int x4), (5, .int x5)]) hx hb dX12_feed_22 hl (by decide) rfl (fun ls hl => ?_)
    exact j_X12_feed_24 l dC dI Q N R hx hb hr hml hown hts hlocks hZ hA hK N (RS.setI σ 0 0) x1 x2 x3 x4 x5 0 _ _ _ hf hP hD hS (lv_sub hl [1, 2, 3, 4, 5, 6, 0] rfl)
  ·
    replace hf := (if_neg c1).symm.trans hf
    refine lv_bipush (v := (-2)) hx hb dX12_feed_18 (by decide) ?_
    obtain rfl := Option.some.inj hf
    exact W.iret (v := (-2)) hx hb hr (fun t ht hW => ⟨⟨(-2), (), rfl, rfl, by rw [ht]; exact hP, va_K.moved hW.alike hK, hD⟩, hS.F ht⟩) hS.2.2 dX12_feed_20
theorem k_X12_cut_fieldLink_RX12_273_SRModel_thrown_I : Cond.fieldLink RX12 273 "StatementRules2Model" "thrown" "I" ∈ wzX12_cut := List.mem_cons_of_mem _ (List.mem_append_left _ (List.mem_of_getElem? (i := 0) rfl))
theorem i_X12_cut_X12 : ∀ w ∈ wsX120, w ∈ wzX12_cut := fun _ h => List.mem_cons_of_mem _ (List.mem_append_right _ (List.mem_append_left _ (h)))
theorem k_X12_cut_fieldLink_RX12_276_SRModel_taped_I : Cond.fieldLink RX12 276 "StatementRules2Model" "taped" "I" ∈ wzX12_cut := List.mem_cons_of_mem _ (List.mem_append_left _ (List.mem_of_getElem? (i := 1) rfl))
set_option maxHeartbeats 4000000 in
set_option maxRecDepth 100000 in
theorem c_X12_cut (l : Launch) (dC : Nat → ClassId) (dI : Nat → Nat → Nat) (sz : Nat) (Q : RQ) (N : Nat) (σ : RS) (x1 : Int32) (R : Int32 × RS) (hf : f_X12_cut N σ x1 = some R) : Met l yX12_cut wzX12_cut ({ frames := 2, cells := 0, slots := 0, locals := 120 }) (va_Pc [.ref Q.h0, .int x1] (zPre dC dI sz (rW Q σ) (rT Q))) (va_Qi (fun (r : Int32) (_ : Unit) => r = R.1) (fun (_ : Unit) (t : State) => zPost dC dI (va_A (rW Q σ) sz) (rW Q R.2) (rT Q) t) (va_A (rW Q σ) sz)) 0 0 (va_A (rW Q σ) sz) := by
  refine Met.ofW (cc := cX12_cut) (maxL := 3) (ret := (some .int)) (by decide) rfl ?_
  intro p e s m args below meth c s₁ B hml hv
  obtain ⟨rfl, hsz, hZ, hP, hK, hD0⟩ := hv
  have hx := B.exec
  have hb := B.bytes
  have hr := B.returns
  have hts := atoms_spec (ws := wzX12_cut) B.pre
  have hown : s.vm.findClass RX12 = some m.cls := findClass_of_methodNamed B.named
  have hlocks := B.notSynchronized
  subst hsz
  have hD := hD0.self (sz := s.heap.size)
  generalize hAe : va_A (rW Q σ) s.heap.size = A at hD ⊢
  have hA : ∀ q : Nat, s.heap.size ≤ q → A q := fun q h => by rw [← hAe]; exact Or.inr h
  have hS : va_S A s.heap s.heap [] := va_S.rf
  have hl := lv_entry ([.ref Q.h0, .int x1]) (n := 3) (Nat.le_of_ble_eq_true rfl)
  rw [lg_entry_eq]
  generalize (lg_sl ([.ref Q.h0, .int x1]) ++ List.replicate (3 - (lg_sl ([.ref Q.h0, .int x1])).length) Slot.unset).toArray = ls at hl ⊢
  have hl : lv_has ls 3 [(0, .ref Q.h0), (1, .int x1)] := hl
  unfold f_X12_cut at hf
  refine lv_aload_n hx hb dX12_cut_0 rfl (lv_at hl 0 rfl) ?_
  refine lv_iconst (v := 0) hx hb dX12_cut_1 (by decide) ?_
  refine rP_0 hx hb hts i_X12_cut_X12 hown hK hP hD hS (hts (.fieldLink RX12 273 "StatementRules2Model" "thrown" "I") k_X12_cut_fieldLink_RX12_273_SRModel_thrown_I) dX12_cut_2 (fun H locs hP hD hS => ?_)
  refine lv_iload_n hx hb dX12_cut_5 rfl (lv_at hl 1 rfl) ?_
  refine lv_iconst (v := 0) hx hb dX12_cut_6 (by decide) ?_
  refine lv_aload_n hx hb dX12_cut_7 rfl (lv_at hl 0 rfl) ?_
  refine rG_2 (v := (σ.i 2)) hx hb hts i_X12_cut_X12 hown hK hP (hts (.fieldLink RX12 276 "StatementRules2Model" "taped" "I") k_X12_cut_fieldLink_RX12_276_SRModel_taped_I) dX12_cut_8 rfl ?_
  obtain ⟨p1, hcp1, hf⟩ := hf_bind hf
  have hFc := r_free hD hS hA
  refine va_calli (va_runS (As := [.int x1, .int 0, .int (σ.i 2)]) (rest := []) ⟨hx, hb, hml, hown, hts⟩ (c_X12_in l dC dI _ Q N (RS.setI σ 0 0) x1 0 (σ.i 2) p1 hcp1) (va_cwS 3 hts hX12_cut_X12_in_s279 rfl rfl rfl (by decide +kernel) ⟨Nat.le_of_ble_eq_true rfl, Nat.le_of_ble_eq_true rfl⟩) ⟨zPre.blind, zPre.go hZ hP hK hD⟩ rfl rfl hl.1 rfl (lv_room (Nat.le_of_ble_eq_true rfl)) dX12_cut_11 ⟨Nat.le_of_ble_eq_true rfl, Nat.le_of_ble_eq_true rfl⟩) hS (fun q _ h => hFc q h) hFc (fun r2 u9 t9 H1 locs ht hvm hw hB hz1 hk1 hS => ?_)
  obtain ⟨hP, hK1, hD1⟩ := hB
  rw [ht] at hP
  have hD := hD1.weaken (fun _ _ _ h => hFc _ h)
  generalize H1 = H at hP hS ⊢
  obtain rfl : r2 = p1.1 := hw
  refine lv_if_ne (tgt := 19) hx hb dX12_cut_14 (by decide) (fun c3 => ?_) (fun c3 => ?_)
  ·
    replace hf := (if_neg c3).symm.trans hf
    refine lv_aload_n hx hb dX12_cut_19 rfl (lv_at hl 0 rfl) ?_
    refine rG_2 (v := (p1.2.i 2)) hx hb hts i_X12_cut_X12 hown hK hP (hts (.fieldLink RX12 276 "StatementRules2Model" "taped" "I") k_X12_cut_fieldLink_RX12_276_SRModel_taped_I) dX12_cut_20 rfl ?_
    refine lv_iload_n hx hb dX12_cut_23 rfl (lv_at hl 1 rfl) ?_
    refine lv_isub hx hb dX12_cut_24 ?_
    refine lv_istore_n (lv' := [(2, .int ((p1.2.i 2) - x1)), (0, .ref Q.h0), (1, .int x1)]) hx hb dX12_cut_25 rfl hl (by decide) rfl (fun ls hl => ?_)
    refine lv_aload_n hx hb dX12_cut_26 rfl (lv_at hl 1 rfl) ?_
    refine lv_iload_n hx hb dX12_cut_27 rfl (lv_at hl 2 rfl) ?_
    refine rP_2 hx hb hts i_X12_cut_X12 hown hK hP hD hS (hts (.fieldLink RX12 276 "StatementRules2Model" "taped" "I") k_X12_cut_fieldLink_RX12_276_SRModel_taped_I) dX12_cut_28 (fun H locs hP hD hS => ?_)
    refine lv_iload_n hx hb dX12_cut_31 rfl (lv_at hl 0 rfl) ?_
    obtain rfl := Option.some.inj hf
    exact W.iret (v := ((p1.2.i 2) - x1)) hx hb hr (fun t ht hW => ⟨⟨((p1.2.i 2) - x1), (), rfl, rfl, by rw [ht]; exact hP, va_K.moved hW.alike hK, hD⟩, hS.F ht⟩) hS.2.2 dX12_cut_32
  ·
    replace hf := (if_pos c3).symm.trans hf
    refine lv_iconst (v := (-1)) hx hb dX12_cut_17 (by decide) ?_
    obtain rfl := Option.some.inj hf
    exact W.iret (v := (-1)) hx hb hr (fun t ht hW => ⟨⟨(-1), (), rfl, rfl, by rw [ht]; exact hP, va_K.moved hW.alike hK, hD⟩, hS.F ht⟩) hS.2.2 dX12_cut_18
theorem k_X12_kind_fieldLink_RX12_273_SRModel_thrown_I : Cond.fieldLink RX12 273 "StatementRules2Model" "thrown" "I" ∈ wzX12_kind := List.mem_cons_of_mem _ (List.mem_append_left _ (List.mem_of_getElem? (i := 0) rfl))
theorem i_X12_kind_X12 : ∀ w ∈ wsX120, w ∈ wzX12_kind := fun _ h => List.mem_cons_of_mem _ (List.mem_append_right _ (List.mem_append_left _ (h)))
theorem k_X12_kind_fieldLink_RX12_13_SRModel_kinds_I : Cond.fieldLink RX12 13 "StatementRules2Model" "kinds" "I" ∈ wzX12_kind := List.mem_cons_of_mem _ (List.mem_append_left _ (List.mem_of_getElem? (i := 1) rfl))
theorem k_X12_kind_fieldLink_RX12_17_SRModel_above_I : Cond.fieldLink RX12 17 "StatementRules2Model" "above" "[I" ∈ wzX12_kind := List.mem_cons_of_mem _ (List.mem_append_left _ (List.mem_of_getElem? (i := 2) rfl))
set_option maxHeartbeats 4000000 in
set_option maxRecDepth 100000 in
theorem c_X12_kind (l : Launch) (dC : Nat → ClassId) (dI : Nat → Nat → Nat) (sz : Nat) (Q : RQ) (N : Nat) (σ : RS) (x1 : Int32) (R : Int32 × RS) (hf : f_X12_kind N σ x1 = some R) : Met l yX12_kind wzX12_kind ({ frames := 2, cells := 0, slots := 0, locals := 120 }) (va_Pc [.ref Q.h0, .int x1] (zPre dC dI sz (rW Q σ) (rT Q))) (va_Qi (fun (r : Int32) (_ : Unit) => r = R.1) (fun (_ : Unit) (t : State) => zPost dC dI (va_A (rW Q σ) sz) (rW Q R.2) (rT Q) t) (va_A (rW Q σ) sz)) 0 0 (va_A (rW Q σ) sz) := by
  refine Met.ofW (cc := cX12_kind) (maxL := 2) (ret := (some .int)) (by decide) rfl ?_
  intro p e s m args below meth c s₁ B hml hv
  obtain ⟨rfl, hsz, hZ, hP, hK, hD0⟩ := hv
  have hx := B.exec
  have hb := B.bytes
  have hr := B.returns
  have hts := atoms_spec (ws := wzX12_kind) B.pre
  have hown : s.vm.findClass RX12 = some m.cls := findClass_of_methodNamed B.named
  have hlocks := B.notSynchronized
  subst hsz
  have hD := hD0.self (sz := s.heap.size)
  generalize hAe : va_A (rW Q σ) s.heap.size = A at hD ⊢
  have hA : ∀ q : Nat, s.heap.size ≤ q → A q := fun q h => by rw [← hAe]; exact Or.inr h
  have hS : va_S A s.heap s.heap [] := va_S.rf
  have hl := lv_entry ([.ref Q.h0, .int x1]) (n := 2) (Nat.le_of_ble_eq_true rfl)
  rw [lg_entry_eq]
  generalize (lg_sl ([.ref Q.h0, .int x1]) ++ List.replicate (2 - (lg_sl ([.ref Q.h0, .int x1])).length) Slot.unset).toArray = ls at hl ⊢
  have hl : lv_has ls 2 [(0, .ref Q.h0), (1, .int x1)] := hl
  unfold f_X12_kind at hf
  refine lv_aload_n hx hb dX12_kind_0 rfl (lv_at hl 0 rfl) ?_
  refine lv_iconst (v := 0) hx hb dX12_kind_1 (by decide) ?_
  refine rP_0 hx hb hts i_X12_kind_X12 hown hK hP hD hS (hts (.fieldLink RX12 273 "StatementRules2Model" "thrown" "I") k_X12_kind_fieldLink_RX12_273_SRModel_thrown_I) dX12_kind_2 (fun H locs hP hD hS => ?_)
  refine lv_iload_n hx hb dX12_kind_5 rfl (lv_at hl 1 rfl) ?_
  refine lv_iconst (v := 0) hx hb dX12_kind_6 (by decide) ?_
  refine lv_aload_n hx hb dX12_kind_7 rfl (lv_at hl 0 rfl) ?_
  refine rG_3 (v := (σ.i 3)) hx hb hts i_X12_kind_X12 hown hK hP (hts (.fieldLink RX12 13 "StatementRules2Model" "kinds" "I") k_X12_kind_fieldLink_RX12_13_SRModel_kinds_I) dX12_kind_8 rfl ?_
  refine lv_iconst (v := 1) hx hb dX12_kind_11 (by decide) ?_
  refine lv_isub hx hb dX12_kind_12 ?_
  obtain ⟨p1, hcp1, hf⟩ := hf_bind hf
  have hFc := r_free hD hS hA
  refine va_calli (va_runS (As := [.int x1, .int 0, .int ((σ.i 3) - 1)]) (rest := []) ⟨hx, hb, hml, hown, hts⟩ (c_X12_in l dC dI _ Q N (RS.setI σ 0 0) x1 0 ((σ.i 3) - 1) p1 hcp1) (va_cwS 3 hts hX12_kind_X12_in_s279 rfl rfl rfl (by decide +kernel) ⟨Nat.le_of_ble_eq_true rfl, Nat.le_of_ble_eq_true rfl⟩) ⟨zPre.blind, zPre.go hZ hP hK hD⟩ rfl rfl hl.1 rfl (lv_room (Nat.le_of_ble_eq_true rfl)) dX12_kind_13 ⟨Nat.le_of_ble_eq_true rfl, Nat.le_of_ble_eq_true rfl⟩) hS (fun q _ h => hFc q h) hFc (fun r2 u9 t9 H1 locs ht hvm hw hB hz1 hk1 hS => ?_)
  obtain ⟨hP, hK1, hD1⟩ := hB
  rw [ht] at hP
  have hD := hD1.weaken (fun _ _ _ h => hFc _ h)
  generalize H1 = H at hP hS ⊢
  obtain rfl : r2 = p1.1 := hw
  refine lv_if_ne (tgt := 21) hx hb dX12_kind_16 (by decide) (fun c3 => ?_) (fun c3 => ?_)
  ·
    replace hf := (if_neg c3).symm.trans hf
    refine lv_aload_n hx hb dX12_kind_21 rfl (lv_at hl 0 rfl) ?_
    refine rG_3 (v := (p1.2.i 3)) hx hb hts i_X12_kind_X12 hown hK hP (hts (.fieldLink RX12 13 "StatementRules2Model" "kinds" "I") k_X12_kind_fieldLink_RX12_13_SRModel_kinds_I) dX12_kind_22 rfl ?_
    refine lv_bipush (v := 12) hx hb dX12_kind_25 (by decide) ?_
    refine lv_icmp_ne (tgt := 33) hx hb dX12_kind_27 (by decide) (fun c4 => ?_) (fun c4 => ?_)
    ·
      replace hf := (if_neg c4).symm.trans hf
      refine lv_aload_n hx hb dX12_kind_33 rfl (lv_at hl 0 rfl) ?_
      refine rG_4 hx hb hts i_X12_kind_X12 hown hK hP (hts (.fieldLink RX12 17 "StatementRules2Model" "above" "[I") k_X12_kind_fieldLink_RX12_17_SRModel_above_I) dX12_kind_34 ?_
      refine lv_aload_n hx hb dX12_kind_37 rfl (lv_at hl 0 rfl) ?_
      refine rG_3 (v := (p1.2.i 3)) hx hb hts i_X12_kind_X12 hown hK hP (hts (.fieldLink RX12 13 "StatementRules2Model" "kinds" "I") k_X12_kind_fieldLink_RX12_13_SRModel_kinds_I) dX12_kind_38 rfl ?_
      refine lv_iload_n hx hb dX12_kind_41 rfl (lv_at hl 1 rfl) ?_
      obtain ⟨b5, hf⟩ := hf_ite hf
      refine rS_4 hx hb hK hP hD hS b5 dX12_kind_42 (fun H locs hP hD hS => ?_)
      refine lv_aload_n hx hb dX12_kind_43 rfl (lv_at hl 0 rfl) ?_
      refine lv_dup hx hb dX12_kind_44 rfl ?_
      refine rG_3 (v := (p1.2.i 3)) hx hb hts i_X12_kind_X12 hown hK hP (hts (.fieldLink RX12 13 "StatementRules2Model" "kinds" "I") k_X12_kind_fieldLink_RX12_13_SRModel_kinds_I) dX12_kind_45 rfl ?_
      refine lv_iconst (v := 1) hx hb dX12_kind_48 (by decide) ?_
      refine lv_iadd hx hb dX12_kind_49 ?_
      refine rP_3 hx hb hts i_X12_kind_X12 hown hK hP hD hS (hts (.fieldLink RX12 13 "StatementRules2Model" "kinds" "I") k_X12_kind_fieldLink_RX12_13_SRModel_kinds_I) dX12_kind_50 (fun H locs hP hD hS => ?_)
      refine lv_aload_n hx hb dX12_kind_53 rfl (lv_at hl 0 rfl) ?_
      refine rG_3 (v := ((p1.2.i 3) + 1)) hx hb hts i_X12_kind_X12 hown hK hP (hts (.fieldLink RX12 13 "StatementRules2Model" "kinds" "I") k_X12_kind_fieldLink_RX12_13_SRModel_kinds_I) dX12_kind_54 rfl ?_
      refine lv_iconst (v := 1) hx hb dX12_kind_57 (by decide) ?_
      refine lv_isub hx hb dX12_kind_58 ?_
      obtain rfl := Option.some.inj hf
      exact W.iret (v := (((p1.2.i 3) + 1) - 1)) hx hb hr (fun t ht hW => ⟨⟨(((p1.2.i 3) + 1) - 1), (), rfl, rfl, by rw [ht]; exact hP, va_K.moved hW.alike hK, hD⟩, hS.F ht⟩) hS.2.2 dX12_kind_59
    ·
      replace hf := (if_pos c4).symm.trans hf
      refine lv_bipush (v := (-2)) hx hb dX12_kind_30 (by decide) ?_
      obtain rfl := Option.some.inj hf
      exact W.iret (v := (-2)) hx hb hr (fun t ht hW => ⟨⟨(-2), (), rfl, rfl, by rw [ht]; exact hP, va_K.moved hW.alike hK, hD⟩, hS.F ht⟩) hS.2.2 dX12_kind_32
  ·
    replace hf := (if_pos c3).symm.trans hf
    refine lv_iconst (v := (-1)) hx hb dX12_kind_19 (by decide) ?_
    obtain rfl := Option.some.inj hf
    exact W.iret (v := (-1)) hx hb hr (fun t ht hW => ⟨⟨(-1), (), rfl, rfl, by rw [ht]; exact hP, va_K.moved hW.alike hK, hD⟩, hS.F ht⟩) hS.2.2 dX12_kind_20
theorem k_X12_isUnder_fieldLink_RX12_17_SRModel_above_I : Cond.fieldLink RX12 17 "StatementRules2Model" "above" "[I" ∈ wzX12_isUnder := List.mem_cons_of_mem _ (List.mem_append_left _ (List.mem_of_getElem? (i := 0) rfl))
theorem i_X12_isUnder_X12 : ∀ w ∈ wsX120, w ∈ wzX12_isUnder := fun _ h => List.mem_cons_of_mem _ (List.mem_append_right _ (List.mem_append_left _ (h)))
set_option maxHeartbeats 4000000 in
set_option maxRecDepth 100000 in
theorem j_X12_isUnder_21 {p : Program} {e : Env} {s : State} {m : MethodId} {args : Array Value} {below : List Frame} {meth : Method} {c : Code} {A : Nat → Prop} (l : Launch) (dC : Nat → ClassId) (dI : Nat → Nat → Nat) (Q : RQ) (N : Nat) (R : Int32 × RS) (hx : p.tables.exec = Jvm.exec) (hb : c.code = cX12_isUnder) (hr : meth.sig.returnType = (some .boolean)) (hml : c.maxLocals = 4) (hown : s.vm.findClass RX12 = some m.cls) (hts : ∀ w ∈ wzX12_isUnder, w.before args s = true) (hlocks : meth.locks = false) (hZ : zAMB s) (hA : ∀ q : Nat, s.heap.size ≤ q → A q) (hK : va_K (dC, dI) vwCl (rT Q) s) : ∀ (σ : RS) (x2 : Int32) (x3 : Int32) (H : Heap) (locs : List Loc) (ls : Array Slot), f_X12_isUnder_21 N σ x2 x3 = some R → va_P (dC, dI) vwCl (rW Q σ) H → va_D A (rW Q σ) → va_S A s.heap H locs → lv_has ls 4 [(2, .int x2), (3, .int x3)] → W p l e ({ frames := 1, cells := 0, slots := 0, locals := 60 }) s m args below meth c H locs 0 0 (MQ below (va_Qi (fun (r : Int32) (_ : Unit) => r = R.1) (fun (_ : Unit) (t : State) => zPost dC dI A (rW Q R.2) (rT Q) t) A) args s 0 0 A) (F0 m 21 ls []) := by
  intro σ x2 x3 H locs ls hf hP hD hS hl
  unfold f_X12_isUnder_21 at hf
  refine lv_iload_n hx hb dX12_isUnder_21 rfl (lv_at hl 1 rfl) ?_
  refine lv_iload_n hx hb dX12_isUnder_22 rfl (lv_at hl 0 rfl) ?_
  refine lv_icmp_ne (tgt := 30) hx hb dX12_isUnder_23 (by decide) (fun c2 => ?_) (fun c2 => ?_)
  ·
    replace hf := (if_neg c2).symm.trans hf
    refine lv_iconst (v := 0) hx hb dX12_isUnder_30 (by decide) ?_
    obtain rfl := Option.some.inj hf
    exact W.zret (v := 0) hx hb hr (rfl) (fun t ht hW => ⟨⟨0, (), rfl, rfl, by rw [ht]; exact hP, va_K.moved hW.alike hK, hD⟩, hS.F ht⟩) hS.2.2 dX12_isUnder_31
  ·
    replace hf := (if_pos c2).symm.trans hf
    refine lv_iconst (v := 1) hx hb dX12_isUnder_26 (by decide) ?_
    refine lv_goto (tgt := 31) hx hb dX12_isUnder_27 (by decide) ?_
    obtain rfl := Option.some.inj hf
    exact W.zret (v := 1) hx hb hr (rfl) (fun t ht hW => ⟨⟨1, (), rfl, rfl, by rw [ht]; exact hP, va_K.moved hW.alike hK, hD⟩, hS.F ht⟩) hS.2.2 dX12_isUnder_31
set_option maxHeartbeats 4000000 in
set_option maxRecDepth 100000 in
theorem j_X12_isUnder_2 {p : Program} {e : Env} {s : State} {m : MethodId} {args : Array Value} {below : List Frame} {meth : Method} {c : Code} {A : Nat → Prop} (l : Launch) (dC : Nat → ClassId) (dI : Nat → Nat → Nat) (Q : RQ) (N : Nat) (R : Int32 × RS) (hx : p.tables.exec = Jvm.exec) (hb : c.code = cX12_isUnder) (hr : meth.sig.returnType = (some .boolean)) (hml : c.maxLocals = 4) (hown : s.vm.findClass RX12 = some m.cls) (hts : ∀ w ∈ wzX12_isUnder, w.before args s = true) (hlocks : meth.locks = false) (hZ : zAMB s) (hA : ∀ q : Nat, s.heap.size ≤ q → A q) (hK : va_K (dC, dI) vwCl (rT Q) s) : ∀ (n9 : Nat), ∀ (σ : RS) (x2 : Int32) (x3 : Int32) (H : Heap) (locs : List Loc) (ls : Array Slot), f_X12_isUnder_2 N n9 σ x2 x3 = some R → va_P (dC, dI) vwCl (rW Q σ) H → va_D A (rW Q σ) → va_S A s.heap H locs → lv_has ls 4 [(0, .ref Q.h0), (2, .int x2), (3, .int x3)] → W p l e ({ frames := 1, cells := 0, slots := 0, locals := 60 }) s m args below meth c H locs 0 0 (MQ below (va_Qi (fun (r : Int32) (_ : Unit) => r = R.1) (fun (_ : Unit) (t : State) => zPost dC dI A (rW Q R.2) (rT Q) t) A) args s 0 0 A) (F0 m 2 ls []) := by
  intro n9
  induction n9 with
  | zero => intro σ x2 x3 H locs ls hf; exact absurd hf (by intro h9; cases h9)
  | succ n9 ih =>
    intro σ x2 x3 H locs ls hf hP hD hS hl
    replace hf : b_X12_isUnder_2 N (f_X12_isUnder_2 N n9) σ x2 x3 = some R := hf
    unfold b_X12_isUnder_2 at hf
    refine lv_iload_n hx hb dX12_isUnder_2 rfl (lv_at hl 2 rfl) ?_
    refine lv_iload_n hx hb dX12_isUnder_3 rfl (lv_at hl 1 rfl) ?_
    refine lv_icmp_eq (tgt := 21) hx hb dX12_isUnder_4 (by decide) (fun c1 => ?_) (fun c1 => ?_)
    ·
      replace hf := (if_pos c1).symm.trans hf
      exact j_X12_isUnder_21 l dC dI Q N R hx hb hr hml hown hts hlocks hZ hA hK σ x2 x3 _ _ _ hf hP hD hS (lv_sub hl [1, 2] rfl)
    ·
      replace hf := (if_neg c1).symm.trans hf
      refine lv_iload_n hx hb dX12_isUnder_7 rfl (lv_at hl 2 rfl) ?_
      refine lv_if_le (tgt := 21) hx hb dX12_isUnder_8 (by decide) (fun c3 => ?_) (fun c3 => ?_)
      ·
        replace hf := (if_pos c3).symm.trans hf
        exact j_X12_isUnder_21 l dC dI Q N R hx hb hr hml hown hts hlocks hZ hA hK σ x2 x3 _ _ _ hf hP hD hS (lv_sub hl [1, 2] rfl)
      ·
        replace hf := (if_neg c3).symm.trans hf
        refine lv_aload_n hx hb dX12_isUnder_11 rfl (lv_at hl 0 rfl) ?_
        refine rG_4 hx hb hts i_X12_isUnder_X12 hown hK hP (hts (.fieldLink RX12 17 "StatementRules2Model" "above" "[I") k_X12_isUnder_fieldLink_RX12_17_SRModel_above_I) dX12_isUnder_12 ?_
        refine lv_iload_n hx hb dX12_isUnder_15 rfl (lv_at hl 2 rfl) ?_
        obtain ⟨b4, hf⟩ := hf_ite hf
        refine rL_4 (v := (σ.a 4 ((x3 : Int32).toNatClampNeg))) hx hb hK hP b4 dX12_isUnder_16 rfl ?_
        refine lv_istore_n (lv' := [(3, .int (σ.a 4 ((x3 : Int32).toNatClampNeg))), (0, .ref Q.h0), (2, .int x2)]) hx hb dX12_isUnder_17 rfl hl (by decide) rfl (fun ls hl => ?_)
        refine lv_goto (tgt := 2) hx hb dX12_isUnder_18 (by decide) ?_
        exact ih σ x2 (σ.a 4 ((x3 : Int32).toNatClampNeg)) _ _ _ hf hP hD hS (lv_sub hl [1, 2, 0] rfl)
set_option maxHeartbeats 4000000 in
set_option maxRecDepth 100000 in
theorem c_X12_isUnder (l : Launch) (dC : Nat → ClassId) (dI : Nat → Nat → Nat) (sz : Nat) (Q : RQ) (N : Nat) (σ : RS) (x1 : Int32) (x2 : Int32) (R : Int32 × RS) (hf : f_X12_isUnder N σ x1 x2 = some R) : Met l yX12_isUnder wzX12_isUnder ({ frames := 1, cells := 0, slots := 0, locals := 60 }) (va_Pc [.ref Q.h0, .int x1, .int x2] (zPre dC dI sz (rW Q σ) (rT Q))) (va_Qi (fun (r : Int32) (_ : Unit) => r = R.1) (fun (_ : Unit) (t : State) => zPost dC dI (va_A (rW Q σ) sz) (rW Q R.2) (rT Q) t) (va_A (rW Q σ) sz)) 0 0 (va_A (rW Q σ) sz) := by
  refine Met.ofW (cc := cX12_isUnder) (maxL := 4) (ret := (some .boolean)) (by decide) rfl ?_
  intro p e s m args below meth c s₁ B hml hv
  obtain ⟨rfl, hsz, hZ, hP, hK, hD0⟩ := hv
  have hx := B.exec
  have hb := B.bytes
  have hr := B.returns
  have hts := atoms_spec (ws := wzX12_isUnder) B.pre
  have hown : s.vm.findClass RX12 = some m.cls := findClass_of_methodNamed B.named
  have hlocks := B.notSynchronized
  subst hsz
  have hD := hD0.self (sz := s.heap.size)
  generalize hAe : va_A (rW Q σ) s.heap.size = A at hD ⊢
  have hA : ∀ q : Nat, s.heap.size ≤ q → A q := fun q h => by rw [← hAe]; exact Or.inr h
  have hS : va_S A s.heap s.heap [] := va_S.rf
  have hl := lv_entry ([.ref Q.h0, .int x1, .int x2]) (n := 4) (Nat.le_of_ble_eq_true rfl)
  rw [lg_entry_eq]
  generalize (lg_sl ([.ref Q.h0, .int x1, .int x2]) ++ List.replicate (4 - (lg_sl ([.ref Q.h0, .int x1, .int x2])).length) Slot.unset).toArray = ls at hl ⊢
  have hl : lv_has ls 4 [(0, .ref Q.h0), (1, .int x1), (2, .int x2)] := hl
  unfold f_X12_isUnder at hf
  refine lv_iload_n hx hb dX12_isUnder_0 rfl (lv_at hl 1 rfl) ?_
  refine lv_istore_n (lv' := [(3, .int x1), (0, .ref Q.h0), (1, .int x1), (2, .int x2)]) hx hb dX12_isUnder_1 rfl hl (by decide) rfl (fun ls hl => ?_)
  exact j_X12_isUnder_2 l dC dI Q N R hx hb hr hml hown hts hlocks hZ hA hK N σ x2 x1 _ _ _ hf hP hD hS (lv_sub hl [1, 3, 0] rfl)
theorem k_X12_under_fieldLink_RX12_273_SRModel_thrown_I : Cond.fieldLink RX12 273 "StatementRules2Model" "thrown" "I" ∈ wzX12_under := List.mem_cons_of_mem _ (List.mem_append_left _ (List.mem_of_getElem? (i := 0) rfl))
theorem i_X12_under_X12 : ∀ w ∈ wsX120, w ∈ wzX12_under := fun _ h => List.mem_cons_of_mem _ (List.mem_append_right _ (List.mem_append_left _ (h)))
theorem k_X12_under_fieldLink_RX12_13_SRModel_kinds_I : Cond.fieldLink RX12 13 "StatementRules2Model" "kinds" "I" ∈ wzX12_under := List.mem_cons_of_mem _ (List.mem_append_left _ (List.mem_of_getElem? (i := 1) rfl))
set_option maxHeartbeats 4000000 in
set_option maxRecDepth 100000 in
theorem j_X12_under_33 {p : Program} {e : Env} {s : State} {m : MethodId} {args : Array Value} {below : List Frame} {meth : Method} {c : Code} {A : Nat → Prop} (l : Launch) (dC : Nat → ClassId) (dI : Nat → Nat → Nat) (Q : RQ) (N : Nat) (R : Int32 × RS) (hx : p.tables.exec = Jvm.exec) (hb : c.code = cX12_under) (hr : meth.sig.returnType = (some .int)) (hml : c.maxLocals = 3) (hown : s.vm.findClass RX12 = some m.cls) (hts : ∀ w ∈ wzX12_under, w.before args s = true) (hlocks : meth.locks = false) (hZ : zAMB s) (hA : ∀ q : Nat, s.heap.size ≤ q → A q) (hK : va_K (dC, dI) vwCl (rT Q) s) : ∀ (σ : RS) (H : Heap) (locs : List Loc) (ls : Array Slot), f_X12_under_33 N σ = some R → va_P (dC, dI) vwCl (rW Q σ) H → va_D A (rW Q σ) → va_S A s.heap H locs → lv_has ls 3 [] → W p l e ({ frames := 2, cells := 0, slots := 0, locals := 120 }) s m args below meth c H locs 0 0 (MQ below (va_Qi (fun (r : Int32) (_ : Unit) => r = R.1) (fun (_ : Unit) (t : State) => zPost dC dI A (rW Q R.2) (rT Q) t) A) args s 0 0 A) (F0 m 33 ls []) := by
  intro σ  H locs ls hf hP hD hS hl
  unfold f_X12_under_33 at hf
  refine lv_iconst (v := (-1)) hx hb dX12_under_33 (by decide) ?_
  obtain rfl := Option.some.inj hf
  exact W.iret (v := (-1)) hx hb hr (fun t ht hW => ⟨⟨(-1), (), rfl, rfl, by rw [ht]; exact hP, va_K.moved hW.alike hK, hD⟩, hS.F ht⟩) hS.2.2 dX12_under_34
set_option maxHeartbeats 4000000 in
set_option maxRecDepth 100000 in
theorem c_X12_under (l : Launch) (dC : Nat → ClassId) (dI : Nat → Nat → Nat) (sz : Nat) (Q : RQ) (N : Nat) (σ : RS) (x1 : Int32) (x2 : Int32) (R : Int32 × RS) (hf : f_X12_under N σ x1 x2 = some R) : Met l yX12_under wzX12_under ({ frames := 2, cells := 0, slots := 0, locals := 120 }) (va_Pc [.ref Q.h0, .int x1, .int x2] (zPre dC dI sz (rW Q σ) (rT Q))) (va_Qi (fun (r : Int32) (_ : Unit) => r = R.1) (fun (_ : Unit) (t : State) => zPost dC dI (va_A (rW Q σ) sz) (rW Q R.2) (rT Q) t) (va_A (rW Q σ) sz)) 0 0 (va_A (rW Q σ) sz) := by
  refine Met.ofW (cc := cX12_under) (maxL := 3) (ret := (some .int)) (by decide) rfl ?_
  intro p e s m args below meth c s₁ B hml hv
  obtain ⟨rfl, hsz, hZ, hP, hK, hD0⟩ := hv
  have hx := B.exec
  have hb := B.bytes
  have hr := B.returns
  have hts := atoms_spec (ws := wzX12_under) B.pre
  have hown : s.vm.findClass RX12 = some m.cls := findClass_of_methodNamed B.named
  have hlocks := B.notSynchronized
  subst hsz
  have hD := hD0.self (sz := s.heap.size)
  generalize hAe : va_A (rW Q σ) s.heap.size = A at hD ⊢
  have hA : ∀ q : Nat, s.heap.size ≤ q → A q := fun q h => by rw [← hAe]; exact Or.inr h
  have hS : va_S A s.heap s.heap [] := va_S.rf
  have hl := lv_entry ([.ref Q.h0, .int x1, .int x2]) (n := 3) (Nat.le_of_ble_eq_true rfl)
  rw [lg_entry_eq]
  generalize (lg_sl ([.ref Q.h0, .int x1, .int x2]) ++ List.replicate (3 - (lg_sl ([.ref Q.h0, .int x1, .int x2])).length) Slot.unset).toArray = ls at hl ⊢
  have hl : lv_has ls 3 [(0, .ref Q.h0), (1, .int x1), (2, .int x2)] := hl
  unfold f_X12_under at hf
  refine lv_aload_n hx hb dX12_under_0 rfl (lv_at hl 0 rfl) ?_
  refine lv_iconst (v := 0) hx hb dX12_under_1 (by decide) ?_
  refine rP_0 hx hb hts i_X12_under_X12 hown hK hP hD hS (hts (.fieldLink RX12 273 "StatementRules2Model" "thrown" "I") k_X12_under_fieldLink_RX12_273_SRModel_thrown_I) dX12_under_2 (fun H locs hP hD hS => ?_)
  refine lv_iload_n hx hb dX12_under_5 rfl (lv_at hl 1 rfl) ?_
  refine lv_iconst (v := 0) hx hb dX12_under_6 (by decide) ?_
  refine lv_aload_n hx hb dX12_under_7 rfl (lv_at hl 0 rfl) ?_
  refine rG_3 (v := (σ.i 3)) hx hb hts i_X12_under_X12 hown hK hP (hts (.fieldLink RX12 13 "StatementRules2Model" "kinds" "I") k_X12_under_fieldLink_RX12_13_SRModel_kinds_I) dX12_under_8 rfl ?_
  refine lv_iconst (v := 1) hx hb dX12_under_11 (by decide) ?_
  refine lv_isub hx hb dX12_under_12 ?_
  obtain ⟨p1, hcp1, hf⟩ := hf_bind hf
  have hFc := r_free hD hS hA
  refine va_calli (va_runS (As := [.int x1, .int 0, .int ((σ.i 3) - 1)]) (rest := []) ⟨hx, hb, hml, hown, hts⟩ (c_X12_in l dC dI _ Q N (RS.setI σ 0 0) x1 0 ((σ.i 3) - 1) p1 hcp1) (va_cwS 3 hts hX12_under_X12_in_s279 rfl rfl rfl (by decide +kernel) ⟨Nat.le_of_ble_eq_true rfl, Nat.le_of_ble_eq_true rfl⟩) ⟨zPre.blind, zPre.go hZ hP hK hD⟩ rfl rfl hl.1 rfl (lv_room (Nat.le_of_ble_eq_true rfl)) dX12_under_13 ⟨Nat.le_of_ble_eq_true rfl, Nat.le_of_ble_eq_true rfl⟩) hS (fun q _ h => hFc q h) hFc (fun r2 u9 t9 H1 locs ht hvm hw hB hz1 hk1 hS => ?_)
  obtain ⟨hP, hK1, hD1⟩ := hB
  rw [ht] at hP
  have hD := hD1.weaken (fun _ _ _ h => hFc _ h)
  generalize H1 = H at hP hS ⊢
  obtain rfl : r2 = p1.1 := hw
  refine lv_if_eq (tgt := 33) hx hb dX12_under_16 (by decide) (fun c3 => ?_) (fun c3 => ?_)
  ·
    replace hf := (if_pos c3).symm.trans hf
    exact j_X12_under_33 l dC dI Q N R hx hb hr hml hown hts hlocks hZ hA hK p1.2 _ _ _ hf hP hD hS (lv_sub hl [] rfl)
  ·
    replace hf := (if_neg c3).symm.trans hf
    refine lv_iload_n hx hb dX12_under_19 rfl (lv_at hl 2 rfl) ?_
    refine lv_iconst (v := 0) hx hb dX12_under_20 (by decide) ?_
    refine lv_aload_n hx hb dX12_under_21 rfl (lv_at hl 0 rfl) ?_
    refine rG_3 (v := (p1.2.i 3)) hx hb hts i_X12_under_X12 hown hK hP (hts (.fieldLink RX12 13 "StatementRules2Model" "kinds" "I") k_X12_under_fieldLink_RX12_13_SRModel_kinds_I) dX12_under_22 rfl ?_
    refine lv_iconst (v := 1) hx hb dX12_under_25 (by decide) ?_
    refine lv_isub hx hb dX12_under_26 ?_
    obtain ⟨p4, hcp4, hf⟩ := hf_bind hf
    have hFc := r_free hD hS hA
    refine va_calli (va_runS (As := [.int x2, .int 0, .int ((p1.2.i 3) - 1)]) (rest := []) ⟨hx, hb, hml, hown, hts⟩ (c_X12_in l dC dI _ Q N p1.2 x2 0 ((p1.2.i 3) - 1) p4 hcp4) (va_cwS 3 hts hX12_under_X12_in_s279 rfl rfl rfl (by decide +kernel) ⟨Nat.le_of_ble_eq_true rfl, Nat.le_of_ble_eq_true rfl⟩) ⟨zPre.blind, zPre.go hZ hP hK hD⟩ rfl rfl hl.1 rfl (lv_room (Nat.le_of_ble_eq_true rfl)) dX12_under_27 ⟨Nat.le_of_ble_eq_true rfl, Nat.le_of_ble_eq_true rfl⟩) hS (fun q _ h => hFc q h) hFc (fun r5 u9 t9 H1 locs ht hvm hw hB hz1 hk1 hS => ?_)
    obtain ⟨hP, hK1, hD1⟩ := hB
    rw [ht] at hP
    have hD := hD1.weaken (fun _ _ _ h => hFc _ h)
    generalize H1 = H at hP hS ⊢
    obtain rfl : r5 = p4.1 := hw
    refine lv_if_ne (tgt := 35) hx hb dX12_under_30 (by decide) (fun c6 => ?_) (fun c6 => ?_)
    ·
      replace hf := (if_neg c6).symm.trans hf
      refine lv_aload_n hx hb dX12_under_35 rfl (lv_at hl 0 rfl) ?_
      refine lv_iload_n hx hb dX12_under_36 rfl (lv_at hl 1 rfl) ?_
      refine lv_iload_n hx hb dX12_under_37 rfl (lv_at hl 2 rfl) ?_
      obtain ⟨p7, hcp7, hf⟩ := hf_bind hf
      have hFc := r_free hD hS hA
      refine va_calli (va_runV (As := [.int x1, .int x2]) (rest := []) ⟨hx, hb, hml, hown, hts⟩ (c_X12_isUnder l dC dI _ Q N p4.2 x1 x2 p7 hcp7) (cwV 2 hts hX12_under_X12_isUnder_v283 rfl rfl rfl (by decide +kernel) ⟨Nat.le_of_ble_eq_true rfl, Nat.le_of_ble_eq_true rfl⟩) ⟨zPre.blind, va_recv hK hP (ci := 11) (q0 := 0) rfl rfl, zPre.go hZ hP hK hD⟩ rfl rfl hl.1 rfl (lv_room (Nat.le_of_ble_eq_true rfl)) dX12_under_38 ⟨Nat.le_of_ble_eq_true rfl, Nat.le_of_ble_eq_true rfl⟩) hS (fun q _ h => hFc q h) hFc (fun r8 u9 t9 H1 locs ht hvm hw hB hz1 hk1 hS => ?_)
      obtain ⟨hP, hK1, hD1⟩ := hB
      rw [ht] at hP
      have hD := hD1.weaken (fun _ _ _ h => hFc _ h)
      generalize H1 = H at hP hS ⊢
      obtain rfl : r8 = p7.1 := hw
      refine lv_if_eq (tgt := 48) hx hb dX12_under_41 (by decide) (fun c9 => ?_) (fun c9 => ?_)
      ·
        replace hf := (if_pos c9).symm.trans hf
        refine lv_iconst (v := 0) hx hb dX12_under_48 (by decide) ?_
        obtain rfl := Option.some.inj hf
        exact W.iret (v := 0) hx hb hr (fun t ht hW => ⟨⟨0, (), rfl, rfl, by rw [ht]; exact hP, va_K.moved hW.alike hK, hD⟩, hS.F ht⟩) hS.2.2 dX12_under_49
      ·
        replace hf := (if_neg c9).symm.trans hf
        refine lv_iconst (v := 1) hx hb dX12_under_44 (by decide) ?_
        refine lv_goto (tgt := 49) hx hb dX12_under_45 (by decide) ?_
        obtain rfl := Option.some.inj hf
        exact W.iret (v := 1) hx hb hr (fun t ht hW => ⟨⟨1, (), rfl, rfl, by rw [ht]; exact hP, va_K.moved hW.alike hK, hD⟩, hS.F ht⟩) hS.2.2 dX12_under_49
    ·
      replace hf := (if_pos c6).symm.trans hf
      exact j_X12_under_33 l dC dI Q N R hx hb hr hml hown hts hlocks hZ hA hK p4.2 _ _ _ hf hP hD hS (lv_sub hl [] rfl)
theorem k_X12_resource_fieldLink_RX12_273_SRModel_thrown_I : Cond.fieldLink RX12 273 "StatementRules2Model" "thrown" "I" ∈ wzX12_resource := List.mem_cons_of_mem _ (List.mem_append_left _ (List.mem_of_getElem? (i := 0) rfl))
theorem i_X12_resource_X12 : ∀ w ∈ wsX120, w ∈ wzX12_resource := fun _ h => List.mem_cons_of_mem _ (List.mem_append_right _ (List.mem_append_left _ (h)))
theorem k_X12_resource_fieldLink_RX12_13_SRModel_kinds_I : Cond.fieldLink RX12 13 "StatementRules2Model" "kinds" "I" ∈ wzX12_resource := List.mem_cons_of_mem _ (List.mem_append_left _ (List.mem_of_getElem? (i := 1) rfl))
theorem k_X12_resource_fieldLink_RX12_20_SRModel_isNull_Z : Cond.fieldLink RX12 20 "StatementRules2Model" "isNull" "[Z" ∈ wzX12_resource := List.mem_cons_of_mem _ (List.mem_append_left _ (List.mem_of_getElem? (i := 2) rfl))
theorem k_X12_resource_fieldLink_RX12_24_SRModel_opening_I : Cond.fieldLink RX12 24 "StatementRules2Model" "opening" "[I" ∈ wzX12_resource := List.mem_cons_of_mem _ (List.mem_append_left _ (List.mem_of_getElem? (i := 3) rfl))
theorem k_X12_resource_fieldLink_RX12_27_SRModel_closing_I : Cond.fieldLink RX12 27 "StatementRules2Model" "closing" "[I" ∈ wzX12_resource := List.mem_cons_of_mem _ (List.mem_append_left _ (List.mem_of_getElem? (i := 4) rfl))
set_option maxHeartbeats 4000000 in
set_option maxRecDepth 100000 in
theorem j_X12_resource_53 {p : Program} {e : Env} {s : State} {m : MethodId} {args : Array Value} {below : List Frame} {meth : Method} {c : Code} {A : Nat → Prop} (l : Launch) (dC : Nat → ClassId) (dI : Nat → Nat → Nat) (Q : RQ) (N : Nat) (R : Int32 × RS) (hx : p.tables.exec = Jvm.exec) (hb : c.code = cX12_resource) (hr : meth.sig.returnType = (some .int)) (hml : c.maxLocals = 5) (hown : s.vm.findClass RX12 = some m.cls) (hts : ∀ w ∈ wzX12_resource, w.before args s = true) (hlocks : meth.locks = false) (hZ : zAMB s) (hA : ∀ q : Nat, s.heap.size ≤ q → A q) (hK : va_K (dC, dI) vwCl (rT Q) s) : ∀ (σ : RS) (H : Heap) (locs : List Loc) (ls : Array Slot), f_X12_resource_53 N σ = some R → va_P (dC, dI) vwCl (rW Q σ) H → va_D A (rW Q σ) → va_S A s.heap H locs → lv_has ls 5 [] → W p l e ({ frames := 2, cells := 0, slots := 0, locals := 120 }) s m args below meth c H locs 0 0 (MQ below (va_Qi (fun (r : Int32) (_ : Unit) => r = R.1) (fun (_ : Unit) (t : State) => zPost dC dI A (rW Q R.2) (rT Q) t) A) args s 0 0 A) (F0 m 53 ls []) := by
  intro σ  H locs ls hf hP hD hS hl
  unfold f_X12_resource_53 at hf
  refine lv_iconst (v := (-1)) hx hb dX12_resource_53 (by decide) ?_
  obtain rfl := Option.some.inj hf
  exact W.iret (v := (-1)) hx hb hr (fun t ht hW => ⟨⟨(-1), (), rfl, rfl, by rw [ht]; exact hP, va_K.moved hW.alike hK, hD⟩, hS.F ht⟩) hS.2.2 dX12_resource_54
set_option maxHeartbeats 4000000 in
set_option maxRecDepth 100000 in
theorem j_X12_resource_71 {p : Program} {e : Env} {s : State} {m : MethodId} {args : Array Value} {below : List Frame} {meth : Method} {c : Code} {A : Nat → Prop} (l : Launch) (dC : Nat → ClassId) (dI : Nat → Nat → Nat) (Q : RQ) (N : Nat) (R : Int32 × RS) (hx : p.tables.exec = Jvm.exec) (hb : c.code = cX12_resource) (hr : meth.sig.returnType = (some .int)) (hml : c.maxLocals = 5) (hown : s.vm.findClass RX12 = some m.cls) (hts : ∀ w ∈ wzX12_resource, w.before args s = true) (hlocks : meth.locks = false) (hZ : zAMB s) (hA : ∀ q : Nat, s.heap.size ≤ q → A q) (hK : va_K (dC, dI) vwCl (rT Q) s) : ∀ (σ : RS) (x1 : Int32) (x3 : Int32) (x4 : Int32) (H : Heap) (locs : List Loc) (ls : Array Slot), f_X12_resource_71 N σ x1 x3 x4 = some R → va_P (dC, dI) vwCl (rW Q σ) H → va_D A (rW Q σ) → va_S A s.heap H locs → lv_has ls 5 [(0, .ref Q.h0), (1, .int x1), (3, .int x3), (4, .int x4)] → W p l e ({ frames := 2, cells := 0, slots := 0, locals := 120 }) s m args below meth c H locs 0 0 (MQ below (va_Qi (fun (r : Int32) (_ : Unit) => r = R.1) (fun (_ : Unit) (t : State) => zPost dC dI A (rW Q R.2) (rT Q) t) A) args s 0 0 A) (F0 m 71 ls []) := by
  intro σ x1 x3 x4 H locs ls hf hP hD hS hl
  unfold f_X12_resource_71 at hf
  refine lv_aload_n hx hb dX12_resource_71 rfl (lv_at hl 0 rfl) ?_
  refine rG_6 hx hb hts i_X12_resource_X12 hown hK hP (hts (.fieldLink RX12 24 "StatementRules2Model" "opening" "[I") k_X12_resource_fieldLink_RX12_24_SRModel_opening_I) dX12_resource_72 ?_
  refine lv_iload_n hx hb dX12_resource_75 rfl (lv_at hl 1 rfl) ?_
  refine lv_iload_n hx hb dX12_resource_76 rfl (lv_at hl 2 rfl) ?_
  refine lv_iconst (v := 1) hx hb dX12_resource_77 (by decide) ?_
  refine lv_iadd hx hb dX12_resource_78 ?_
  obtain ⟨b15, hf⟩ := hf_ite hf
  refine rS_6 hx hb hK hP hD hS b15 dX12_resource_79 (fun H locs hP hD hS => ?_)
  refine lv_aload_n hx hb dX12_resource_80 rfl (lv_at hl 0 rfl) ?_
  refine rG_7 hx hb hts i_X12_resource_X12 hown hK hP (hts (.fieldLink RX12 27 "StatementRules2Model" "closing" "[I") k_X12_resource_fieldLink_RX12_27_SRModel_closing_I) dX12_resource_81 ?_
  refine lv_iload_n hx hb dX12_resource_84 rfl (lv_at hl 1 rfl) ?_
  refine lv_iload hx hb dX12_resource_85 (lv_at hl 3 rfl) ?_
  refine lv_iconst (v := 1) hx hb dX12_resource_87 (by decide) ?_
  refine lv_iadd hx hb dX12_resource_88 ?_
  refine rS_7 hx hb hK hP hD hS b15 dX12_resource_89 (fun H locs hP hD hS => ?_)
  refine lv_iconst (v := 1) hx hb dX12_resource_90 (by decide) ?_
  obtain rfl := Option.some.inj hf
  exact W.iret (v := 1) hx hb hr (fun t ht hW => ⟨⟨1, (), rfl, rfl, by rw [ht]; exact hP, va_K.moved hW.alike hK, hD⟩, hS.F ht⟩) hS.2.2 dX12_resource_91
set_option maxHeartbeats 4000000 in
set_option maxRecDepth 100000 in
theorem c_X12_resource (l : Launch) (dC : Nat → ClassId) (dI : Nat → Nat → Nat) (sz : Nat) (Q : RQ) (N : Nat) (σ : RS) (x1 : Int32) (x2 : Int32) (x3 : Int32) (x4 : Int32) (R : Int32 × RS) (hf : f_X12_resource N σ x1 x2 x3 x4 = some R) : Met l yX12_resource wzX12_resource ({ frames := 2, cells := 0, slots := 0, locals := 120 }) (va_Pc [.ref Q.h0, .int x1, .int x2, .int x3, .int x4] (zPre dC dI sz (rW Q σ) (rT Q))) (va_Qi (fun (r : Int32) (_ : Unit) => r = R.1) (fun (_ : Unit) (t : State) => zPost dC dI (va_A (rW Q σ) sz) (rW Q R.2) (rT Q) t) (va_A (rW Q σ) sz)) 0 0 (va_A (rW Q σ) sz) := by
  refine Met.ofW (cc := cX12_resource) (maxL := 5) (ret := (some .int)) (by decide) rfl ?_
  intro p e s m args below meth c s₁ B hml hv
  obtain ⟨rfl, hsz, hZ, hP, hK, hD0⟩ := hv
  have hx := B.exec
  have hb := B.bytes
  have hr := B.returns
  have hts := atoms_spec (ws := wzX12_resource) B.pre
  have hown : s.vm.findClass RX12 = some m.cls := findClass_of_methodNamed B.named
  have hlocks := B.notSynchronized
  subst hsz
  have hD := hD0.self (sz := s.heap.size)
  generalize hAe : va_A (rW Q σ) s.heap.size = A at hD ⊢
  have hA : ∀ q : Nat, s.heap.size ≤ q → A q := fun q h => by rw [← hAe]; exact Or.inr h
  have hS : va_S A s.heap s.heap [] := va_S.rf
  have hl := lv_entry ([.ref Q.h0, .int x1, .int x2, .int x3, .int x4]) (n := 5) (Nat.le_of_ble_eq_true rfl)
  rw [lg_entry_eq]
  generalize (lg_sl ([.ref Q.h0, .int x1, .int x2, .int x3, .int x4]) ++ List.replicate (5 - (lg_sl ([.ref Q.h0, .int x1, .int x2, .int x3, .int x4])).length) Slot.unset).toArray = ls at hl ⊢
  have hl : lv_has ls 5 [(0, .ref Q.h0), (1, .int x1), (2, .int x2), (3, .int x3), (4, .int x4)] := hl
  unfold f_X12_resource at hf
  refine lv_aload_n hx hb dX12_resource_0 rfl (lv_at hl 0 rfl) ?_
  refine lv_iconst (v := 0) hx hb dX12_resource_1 (by decide) ?_
  refine rP_0 hx hb hts i_X12_resource_X12 hown hK hP hD hS (hts (.fieldLink RX12 273 "StatementRules2Model" "thrown" "I") k_X12_resource_fieldLink_RX12_273_SRModel_thrown_I) dX12_resource_2 (fun H locs hP hD hS => ?_)
  refine lv_iload_n hx hb dX12_resource_5 rfl (lv_at hl 1 rfl) ?_
  refine lv_iconst (v := 0) hx hb dX12_resource_6 (by decide) ?_
  refine lv_bipush (v := 7) hx hb dX12_resource_7 (by decide) ?_
  obtain ⟨p1, hcp1, hf⟩ := hf_bind hf
  have hFc := r_free hD hS hA
  refine va_calli (va_runS (As := [.int x1, .int 0, .int 7]) (rest := []) ⟨hx, hb, hml, hown, hts⟩ (c_X12_in l dC dI _ Q N (RS.setI σ 0 0) x1 0 7 p1 hcp1) (va_cwS 3 hts hX12_resource_X12_in_s279 rfl rfl rfl (by decide +kernel) ⟨Nat.le_of_ble_eq_true rfl, Nat.le_of_ble_eq_true rfl⟩) ⟨zPre.blind, zPre.go hZ hP hK hD⟩ rfl rfl hl.1 rfl (lv_room (Nat.le_of_ble_eq_true rfl)) dX12_resource_9 ⟨Nat.le_of_ble_eq_true rfl, Nat.le_of_ble_eq_true rfl⟩) hS (fun q _ h => hFc q h) hFc (fun r2 u9 t9 H1 locs ht hvm hw hB hz1 hk1 hS => ?_)
  obtain ⟨hP, hK1, hD1⟩ := hB
  rw [ht] at hP
  have hD := hD1.weaken (fun _ _ _ h => hFc _ h)
  generalize H1 = H at hP hS ⊢
  obtain rfl : r2 = p1.1 := hw
  refine lv_if_eq (tgt := 53) hx hb dX12_resource_12 (by decide) (fun c3 => ?_) (fun c3 => ?_)
  ·
    replace hf := (if_pos c3).symm.trans hf
    exact j_X12_resource_53 l dC dI Q N R hx hb hr hml hown hts hlocks hZ hA hK p1.2 _ _ _ hf hP hD hS (lv_sub hl [] rfl)
  ·
    replace hf := (if_neg c3).symm.trans hf
    refine lv_iload_n hx hb dX12_resource_15 rfl (lv_at hl 2 rfl) ?_
    refine lv_iconst (v := 0) hx hb dX12_resource_16 (by decide) ?_
    refine lv_iconst (v := 1) hx hb dX12_resource_17 (by decide) ?_
    obtain ⟨p4, hcp4, hf⟩ := hf_bind hf
    have hFc := r_free hD hS hA
    refine va_calli (va_runS (As := [.int x2, .int 0, .int 1]) (rest := []) ⟨hx, hb, hml, hown, hts⟩ (c_X12_in l dC dI _ Q N p1.2 x2 0 1 p4 hcp4) (va_cwS 3 hts hX12_resource_X12_in_s279 rfl rfl rfl (by decide +kernel) ⟨Nat.le_of_ble_eq_true rfl, Nat.le_of_ble_eq_true rfl⟩) ⟨zPre.blind, zPre.go hZ hP hK hD⟩ rfl rfl hl.1 rfl (lv_room (Nat.le_of_ble_eq_true rfl)) dX12_resource_18 ⟨Nat.le_of_ble_eq_true rfl, Nat.le_of_ble_eq_true rfl⟩) hS (fun q _ h => hFc q h) hFc (fun r5 u9 t9 H1 locs ht hvm hw hB hz1 hk1 hS => ?_)
    obtain ⟨hP, hK1, hD1⟩ := hB
    rw [ht] at hP
    have hD := hD1.weaken (fun _ _ _ h => hFc _ h)
    generalize H1 = H at hP hS ⊢
    obtain rfl : r5 = p4.1 := hw
    refine lv_if_eq (tgt := 53) hx hb dX12_resource_21 (by decide) (fun c6 => ?_) (fun c6 => ?_)
    ·
      replace hf := (if_pos c6).symm.trans hf
      exact j_X12_resource_53 l dC dI Q N R hx hb hr hml hown hts hlocks hZ hA hK p4.2 _ _ _ hf hP hD hS (lv_sub hl [] rfl)
    ·
      replace hf := (if_neg c6).symm.trans hf
      refine lv_iload_n hx hb dX12_resource_24 rfl (lv_at hl 3 rfl) ?_
      refine lv_iconst (v := (-1)) hx hb dX12_resource_25 (by decide) ?_
      refine lv_aload_n hx hb dX12_resource_26 rfl (lv_at hl 0 rfl) ?_
      refine rG_3 (v := (p4.2.i 3)) hx hb hts i_X12_resource_X12 hown hK hP (hts (.fieldLink RX12 13 "StatementRules2Model" "kinds" "I") k_X12_resource_fieldLink_RX12_13_SRModel_kinds_I) dX12_resource_27 rfl ?_
      refine lv_iconst (v := 1) hx hb dX12_resource_30 (by decide) ?_
      refine lv_isub hx hb dX12_resource_31 ?_
      obtain ⟨p7, hcp7, hf⟩ := hf_bind hf
      have hFc := r_free hD hS hA
      refine va_calli (va_runS (As := [.int x3, .int (-1), .int ((p4.2.i 3) - 1)]) (rest := []) ⟨hx, hb, hml, hown, hts⟩ (c_X12_in l dC dI _ Q N p4.2 x3 (-1) ((p4.2.i 3) - 1) p7 hcp7) (va_cwS 3 hts hX12_resource_X12_in_s279 rfl rfl rfl (by decide +kernel) ⟨Nat.le_of_ble_eq_true rfl, Nat.le_of_ble_eq_true rfl⟩) ⟨zPre.blind, zPre.go hZ hP hK hD⟩ rfl rfl hl.1 rfl (lv_room (Nat.le_of_ble_eq_true rfl)) dX12_resource_32 ⟨Nat.le_of_ble_eq_true rfl, Nat.le_of_ble_eq_true rfl⟩) hS (fun q _ h => hFc q h) hFc (fun r8 u9 t9 H1 locs ht hvm hw hB hz1 hk1 hS => ?_)
      obtain ⟨hP, hK1, hD1⟩ := hB
      rw [ht] at hP
      have hD := hD1.weaken (fun _ _ _ h => hFc _ h)
      generalize H1 = H at hP hS ⊢
      obtain rfl : r8 = p7.1 := hw
      refine lv_if_eq (tgt := 53) hx hb dX12_resource_35 (by decide) (fun c9 => ?_) (fun c9 => ?_)
      ·
        replace hf := (if_pos c9).symm.trans hf
        exact j_X12_resource_53 l dC dI Q N R hx hb hr hml hown hts hlocks hZ hA hK p7.2 _ _ _ hf hP hD hS (lv_sub hl [] rfl)
      ·
        replace hf := (if_neg c9).symm.trans hf
        refine lv_iload hx hb dX12_resource_38 (lv_at hl 4 rfl) ?_
        refine lv_iconst (v := (-1)) hx hb dX12_resource_40 (by decide) ?_
        refine lv_aload_n hx hb dX12_resource_41 rfl (lv_at hl 0 rfl) ?_
        refine rG_3 (v := (p7.2.i 3)) hx hb hts i_X12_resource_X12 hown hK hP (hts (.fieldLink RX12 13 "StatementRules2Model" "kinds" "I") k_X12_resource_fieldLink_RX12_13_SRModel_kinds_I) dX12_resource_42 rfl ?_
        refine lv_iconst (v := 1) hx hb dX12_resource_45 (by decide) ?_
        refine lv_isub hx hb dX12_resource_46 ?_
        obtain ⟨p10, hcp10, hf⟩ := hf_bind hf
        have hFc := r_free hD hS hA
        refine va_calli (va_runS (As := [.int x4, .int (-1), .int ((p7.2.i 3) - 1)]) (rest := []) ⟨hx, hb, hml, hown, hts⟩ (c_X12_in l dC dI _ Q N p7.2 x4 (-1) ((p7.2.i 3) - 1) p10 hcp10) (va_cwS 3 hts hX12_resource_X12_in_s279 rfl rfl rfl (by decide +kernel) ⟨Nat.le_of_ble_eq_true rfl, Nat.le_of_ble_eq_true rfl⟩) ⟨zPre.blind, zPre.go hZ hP hK hD⟩ rfl rfl hl.1 rfl (lv_room (Nat.le_of_ble_eq_true rfl)) dX12_resource_47 ⟨Nat.le_of_ble_eq_true rfl, Nat.le_of_ble_eq_true rfl⟩) hS (fun q _ h => hFc q h) hFc (fun r11 u9 t9 H1 locs ht hvm hw hB hz1 hk1 hS => ?_)
        obtain ⟨hP, hK1, hD1⟩ := hB
        rw [ht] at hP
        have hD := hD1.weaken (fun _ _ _ h => hFc _ h)
        generalize H1 = H at hP hS ⊢
        obtain rfl : r11 = p10.1 := hw
        refine lv_if_ne (tgt := 55) hx hb dX12_resource_50 (by decide) (fun c12 => ?_) (fun c12 => ?_)
        ·
          replace hf := (if_neg c12).symm.trans hf
          refine lv_aload_n hx hb dX12_resource_55 rfl (lv_at hl 0 rfl) ?_
          refine rG_5 hx hb hts i_X12_resource_X12 hown hK hP (hts (.fieldLink RX12 20 "StatementRules2Model" "isNull" "[Z") k_X12_resource_fieldLink_RX12_20_SRModel_isNull_Z) dX12_resource_56 ?_
          refine lv_iload_n hx hb dX12_resource_59 rfl (lv_at hl 1 rfl) ?_
          refine lv_iload_n hx hb dX12_resource_60 rfl (lv_at hl 2 rfl) ?_
          refine lv_iconst (v := 1) hx hb dX12_resource_61 (by decide) ?_
          refine lv_icmp_ne (tgt := 69) hx hb dX12_resource_62 (by decide) (fun c13 => ?_) (fun c13 => ?_)
          ·
            replace hf := (if_neg c13).symm.trans hf
            refine lv_iconst (v := 0) hx hb dX12_resource_69 (by decide) ?_
            obtain ⟨b14, hf⟩ := hf_ite hf
            refine rS_5 (v := 0) hx hb hK hP hD hS b14 dX12_resource_70 rfl (fun H locs hP hD hS => ?_)
            exact j_X12_resource_71 l dC dI Q N R hx hb hr hml hown hts hlocks hZ hA hK (RS.setA p10.2 5 ((x1 : Int32).toNatClampNeg) 0) x1 x3 x4 _ _ _ hf hP hD hS (lv_sub hl [0, 1, 3, 4] rfl)
          ·
            replace hf := (if_pos c13).symm.trans hf
            refine lv_iconst (v := 1) hx hb dX12_resource_65 (by decide) ?_
            refine lv_goto (tgt := 70) hx hb dX12_resource_66 (by decide) ?_
            obtain ⟨b16, hf⟩ := hf_ite hf
            refine rS_5 (v := 1) hx hb hK hP hD hS b16 dX12_resource_70 rfl (fun H locs hP hD hS => ?_)
            exact j_X12_resource_71 l dC dI Q N R hx hb hr hml hown hts hlocks hZ hA hK (RS.setA p10.2 5 ((x1 : Int32).toNatClampNeg) 1) x1 x3 x4 _ _ _ hf hP hD hS (lv_sub hl [0, 1, 3, 4] rfl)
        ·
          replace hf := (if_pos c12).symm.trans hf
          exact j_X12_resource_53 l dC dI Q N R hx hb hr hml hown hts hlocks hZ hA hK p10.2 _ _ _ hf hP hD hS (lv_sub hl [] rfl)
theorem k_X12_asserts_fieldLink_RX12_273_SRModel_thrown_I : Cond.fieldLink RX12 273 "StatementRules2Model" "thrown" "I" ∈ wzX12_asserts := List.mem_cons_of_mem _ (List.mem_append_left _ (List.mem_of_getElem? (i := 0) rfl))
theorem i_X12_asserts_X12 : ∀ w ∈ wsX120, w ∈ wzX12_asserts := fun _ h => List.mem_cons_of_mem _ (List.mem_append_right _ (List.mem_append_left _ (h)))
theorem k_X12_asserts_fieldLink_RX12_287_SRModel_asserting_Z : Cond.fieldLink RX12 287 "StatementRules2Model" "asserting" "Z" ∈ wzX12_asserts := List.mem_cons_of_mem _ (List.mem_append_left _ (List.mem_of_getElem? (i := 1) rfl))
set_option maxHeartbeats 4000000 in
set_option maxRecDepth 100000 in
theorem j_X12_asserts_18 {p : Program} {e : Env} {s : State} {m : MethodId} {args : Array Value} {below : List Frame} {meth : Method} {c : Code} {A : Nat → Prop} (l : Launch) (dC : Nat → ClassId) (dI : Nat → Nat → Nat) (Q : RQ) (N : Nat) (R : Int32 × RS) (hx : p.tables.exec = Jvm.exec) (hb : c.code = cX12_asserts) (hr : meth.sig.returnType = (some .int)) (hml : c.maxLocals = 3) (hown : s.vm.findClass RX12 = some m.cls) (hts : ∀ w ∈ wzX12_asserts, w.before args s = true) (hlocks : meth.locks = false) (hZ : zAMB s) (hA : ∀ q : Nat, s.heap.size ≤ q → A q) (hK : va_K (dC, dI) vwCl (rT Q) s) : ∀ (σ : RS) (x1 : Int32) (x2 : Int32) (H : Heap) (locs : List Loc) (ls : Array Slot), f_X12_asserts_18 N σ x1 x2 = some R → va_P (dC, dI) vwCl (rW Q σ) H → va_D A (rW Q σ) → va_S A s.heap H locs → lv_has ls 3 [(0, .ref Q.h0), (1, .int x1), (2, .int x2)] → W p l e ({ frames := 1, cells := 0, slots := 0, locals := 60 }) s m args below meth c H locs 0 0 (MQ below (va_Qi (fun (r : Int32) (_ : Unit) => r = R.1) (fun (_ : Unit) (t : State) => zPost dC dI A (rW Q R.2) (rT Q) t) A) args s 0 0 A) (F0 m 18 ls []) := by
  intro σ x1 x2 H locs ls hf hP hD hS hl
  unfold f_X12_asserts_18 at hf
  refine lv_aload_n hx hb dX12_asserts_18 rfl (lv_at hl 0 rfl) ?_
  refine lv_iload_n hx hb dX12_asserts_19 rfl (lv_at hl 1 rfl) ?_
  obtain ⟨b2, hf⟩ := hf_ite hf
  refine rP_8 hx hb hts i_X12_asserts_X12 hown hK hP hD hS (hts (.fieldLink RX12 287 "StatementRules2Model" "asserting" "Z") k_X12_asserts_fieldLink_RX12_287_SRModel_asserting_Z) dX12_asserts_20 b2 (fun H locs hP hD hS => ?_)
  refine lv_iload_n hx hb dX12_asserts_23 rfl (lv_at hl 2 rfl) ?_
  obtain rfl := Option.some.inj hf
  exact W.iret (v := x2) hx hb hr (fun t ht hW => ⟨⟨x2, (), rfl, rfl, by rw [ht]; exact hP, va_K.moved hW.alike hK, hD⟩, hS.F ht⟩) hS.2.2 dX12_asserts_24
set_option maxHeartbeats 4000000 in
set_option maxRecDepth 100000 in
theorem c_X12_asserts (l : Launch) (dC : Nat → ClassId) (dI : Nat → Nat → Nat) (sz : Nat) (Q : RQ) (N : Nat) (σ : RS) (x1 : Int32) (R : Int32 × RS) (hf : f_X12_asserts N σ x1 = some R) : Met l yX12_asserts wzX12_asserts ({ frames := 1, cells := 0, slots := 0, locals := 60 }) (va_Pc [.ref Q.h0, .int x1] (zPre dC dI sz (rW Q σ) (rT Q))) (va_Qi (fun (r : Int32) (_ : Unit) => r = R.1) (fun (_ : Unit) (t : State) => zPost dC dI (va_A (rW Q σ) sz) (rW Q R.2) (rT Q) t) (va_A (rW Q σ) sz)) 0 0 (va_A (rW Q σ) sz) := by
  refine Met.ofW (cc := cX12_asserts) (maxL := 3) (ret := (some .int)) (by decide) rfl ?_
  intro p e s m args below meth c s₁ B hml hv
  obtain ⟨rfl, hsz, hZ, hP, hK, hD0⟩ := hv
  have hx := B.exec
  have hb := B.bytes
  have hr := B.returns
  have hts := atoms_spec (ws := wzX12_asserts) B.pre
  have hown : s.vm.findClass RX12 = some m.cls := findClass_of_methodNamed B.named
  have hlocks := B.notSynchronized
  subst hsz
  have hD := hD0.self (sz := s.heap.size)
  generalize hAe : va_A (rW Q σ) s.heap.size = A at hD ⊢
  have hA : ∀ q : Nat, s.heap.size ≤ q → A q := fun q h => by rw [← hAe]; exact Or.inr h
  have hS : va_S A s.heap s.heap [] := va_S.rf
  have hl := lv_entry ([.ref Q.h0, .int x1]) (n := 3) (Nat.le_of_ble_eq_true rfl)
  rw [lg_entry_eq]
  generalize (lg_sl ([.ref Q.h0, .int x1]) ++ List.replicate (3 - (lg_sl ([.ref Q.h0, .int x1])).length) Slot.unset).toArray = ls at hl ⊢
  have hl : lv_has ls 3 [(0, .ref Q.h0), (1, .int x1)] := hl
  unfold f_X12_asserts at hf
  refine lv_aload_n hx hb dX12_asserts_0 rfl (lv_at hl 0 rfl) ?_
  refine lv_iconst (v := 0) hx hb dX12_asserts_1 (by decide) ?_
  refine rP_0 hx hb hts i_X12_asserts_X12 hown hK hP hD hS (hts (.fieldLink RX12 273 "StatementRules2Model" "thrown" "I") k_X12_asserts_fieldLink_RX12_273_SRModel_thrown_I) dX12_asserts_2 (fun H locs hP hD hS => ?_)
  refine lv_aload_n hx hb dX12_asserts_5 rfl (lv_at hl 0 rfl) ?_
  refine rG_8 (v := (σ.i 8)) hx hb hts i_X12_asserts_X12 hown hK hP (hts (.fieldLink RX12 287 "StatementRules2Model" "asserting" "Z") k_X12_asserts_fieldLink_RX12_287_SRModel_asserting_Z) dX12_asserts_6 rfl ?_
  refine lv_if_eq (tgt := 16) hx hb dX12_asserts_9 (by decide) (fun c1 => ?_) (fun c1 => ?_)
  ·
    replace hf := (if_pos c1).symm.trans hf
    refine lv_iconst (v := 0) hx hb dX12_asserts_16 (by decide) ?_
    refine lv_istore_n (lv' := [(2, .int 0), (0, .ref Q.h0), (1, .int x1)]) hx hb dX12_asserts_17 rfl hl (by decide) rfl (fun ls hl => ?_)
    exact j_X12_asserts_18 l dC dI Q N R hx hb hr hml hown hts hlocks hZ hA hK (RS.setI σ 0 0) x1 0 _ _ _ hf hP hD hS (lv_sub hl [1, 2, 0] rfl)
  ·
    replace hf := (if_neg c1).symm.trans hf
    refine lv_iconst (v := 1) hx hb dX12_asserts_12 (by decide) ?_
    refine lv_goto (tgt := 17) hx hb dX12_asserts_13 (by decide) ?_
    refine lv_istore_n (lv' := [(2, .int 1), (0, .ref Q.h0), (1, .int x1)]) hx hb dX12_asserts_17 rfl hl (by decide) rfl (fun ls hl => ?_)
    exact j_X12_asserts_18 l dC dI Q N R hx hb hr hml hown hts hlocks hZ hA hK (RS.setI σ 0 0) x1 1 _ _ _ hf hP hD hS (lv_sub hl [1, 2, 0] rfl)
theorem k_X12_at_fieldLink_RX12_276_SRModel_taped_I : Cond.fieldLink RX12 276 "StatementRules2Model" "taped" "I" ∈ wzX12_at := List.mem_cons_of_mem _ (List.mem_append_left _ (List.mem_of_getElem? (i := 0) rfl))
theorem i_X12_at_X12 : ∀ w ∈ wsX120, w ∈ wzX12_at := fun _ h => List.mem_cons_of_mem _ (List.mem_append_right _ (List.mem_append_left _ (h)))
theorem k_X12_at_fieldLink_RX12_7_SRModel_tape_I : Cond.fieldLink RX12 7 "StatementRules2Model" "tape" "[I" ∈ wzX12_at := List.mem_cons_of_mem _ (List.mem_append_left _ (List.mem_of_getElem? (i := 1) rfl))
set_option maxHeartbeats 4000000 in
set_option maxRecDepth 100000 in
theorem c_X12_at (l : Launch) (dC : Nat → ClassId) (dI : Nat → Nat → Nat) (sz : Nat) (Q : RQ) (N : Nat) (σ : RS) (x1 : Int32) (R : Int32 × RS) (hf : f_X12_at N σ x1 = some R) : Met l yX12_at wzX12_at ({ frames := 1, cells := 0, slots := 0, locals := 60 }) (va_Pc [.ref Q.h0, .int x1] (zPre dC dI sz (rW Q σ) (rT Q))) (va_Qi (fun (r : Int32) (_ : Unit) => r = R.1) (fun (_ : Unit) (t : State) => zPost dC dI (va_A (rW Q σ) sz) (rW Q R.2) (rT Q) t) (va_A (rW Q σ) sz)) 0 0 (va_A (rW Q σ) sz) := by
  refine Met.ofW (cc := cX12_at) (maxL := 2) (ret := (some .int)) (by decide) rfl ?_
  intro p e s m args below meth c s₁ B hml hv
  obtain ⟨rfl, hsz, hZ, hP, hK, hD0⟩ := hv
  have hx := B.exec
  have hb := B.bytes
  have hr := B.returns
  have hts := atoms_spec (ws := wzX12_at) B.pre
  have hown : s.vm.findClass RX12 = some m.cls := findClass_of_methodNamed B.named
  have hlocks := B.notSynchronized
  subst hsz
  have hD := hD0.self (sz := s.heap.size)
  generalize hAe : va_A (rW Q σ) s.heap.size = A at hD ⊢
  have hA : ∀ q : Nat, s.heap.size ≤ q → A q := fun q h => by rw [← hAe]; exact Or.inr h
  have hS : va_S A s.heap s.heap [] := va_S.rf
  have hl := lv_entry ([.ref Q.h0, .int x1]) (n := 2) (Nat.le_of_ble_eq_true rfl)
  rw [lg_entry_eq]
  generalize (lg_sl ([.ref Q.h0, .int x1]) ++ List.replicate (2 - (lg_sl ([.ref Q.h0, .int x1])).length) Slot.unset).toArray = ls at hl ⊢
  have hl : lv_has ls 2 [(0, .ref Q.h0), (1, .int x1)] := hl
  unfold f_X12_at at hf
  refine lv_iload_n hx hb dX12_at_0 rfl (lv_at hl 1 rfl) ?_
  refine lv_aload_n hx hb dX12_at_1 rfl (lv_at hl 0 rfl) ?_
  refine rG_2 (v := (σ.i 2)) hx hb hts i_X12_at_X12 hown hK hP (hts (.fieldLink RX12 276 "StatementRules2Model" "taped" "I") k_X12_at_fieldLink_RX12_276_SRModel_taped_I) dX12_at_2 rfl ?_
  refine lv_icmp_ge (tgt := 17) hx hb dX12_at_5 (by decide) (fun c1 => ?_) (fun c1 => ?_)
  ·
    replace hf := (if_pos c1).symm.trans hf
    refine lv_iconst (v := 0) hx hb dX12_at_17 (by decide) ?_
    obtain rfl := Option.some.inj hf
    exact W.iret (v := 0) hx hb hr (fun t ht hW => ⟨⟨0, (), rfl, rfl, by rw [ht]; exact hP, va_K.moved hW.alike hK, hD⟩, hS.F ht⟩) hS.2.2 dX12_at_18
  ·
    replace hf := (if_neg c1).symm.trans hf
    refine lv_aload_n hx hb dX12_at_8 rfl (lv_at hl 0 rfl) ?_
    refine rG_1 hx hb hts i_X12_at_X12 hown hK hP (hts (.fieldLink RX12 7 "StatementRules2Model" "tape" "[I") k_X12_at_fieldLink_RX12_7_SRModel_tape_I) dX12_at_9 ?_
    refine lv_iload_n hx hb dX12_at_12 rfl (lv_at hl 1 rfl) ?_
    obtain ⟨b2, hf⟩ := hf_ite hf
    refine rL_1 (v := (σ.a 1 ((x1 : Int32).toNatClampNeg))) hx hb hK hP b2 dX12_at_13 rfl ?_
    refine lv_goto (tgt := 18) hx hb dX12_at_14 (by decide) ?_
    obtain rfl := Option.some.inj hf
    exact W.iret (v := (σ.a 1 ((x1 : Int32).toNatClampNeg))) hx hb hr (fun t ht hW => ⟨⟨(σ.a 1 ((x1 : Int32).toNatClampNeg)), (), rfl, rfl, by rw [ht]; exact hP, va_K.moved hW.alike hK, hD⟩, hS.F ht⟩) hS.2.2 dX12_at_18
set_option maxHeartbeats 4000000 in
set_option maxRecDepth 100000 in
theorem j_X12_isLetter_16 {p : Program} {e : Env} {s : State} {m : MethodId} {args : Array Value} {below : List Frame} {meth : Method} {c : Code} {A : Nat → Prop} (l : Launch) (dC : Nat → ClassId) (dI : Nat → Nat → Nat) (Q : RQ) (N : Nat) (R : Int32 × RS) (hx : p.tables.exec = Jvm.exec) (hb : c.code = cX12_isLetter) (hr : meth.sig.returnType = (some .boolean)) (hml : c.maxLocals = 1) (hown : s.vm.findClass RX12 = some m.cls) (hts : ∀ w ∈ wzX12_isLetter, w.before args s = true) (hlocks : meth.locks = false) (hZ : zAMB s) (hA : ∀ q : Nat, s.heap.size ≤ q → A q) (hK : va_K (dC, dI) vwCl (rT Q) s) : ∀ (σ : RS) (H : Heap) (locs : List Loc) (ls : Array Slot), f_X12_isLetter_16 N σ = some R → va_P (dC, dI) vwCl (rW Q σ) H → va_D A (rW Q σ) → va_S A s.heap H locs → lv_has ls 1 [] → W p l e ({ frames := 1, cells := 0, slots := 0, locals := 60 }) s m args below meth c H locs 0 0 (MQ below (va_Qi (fun (r : Int32) (_ : Unit) => r = R.1) (fun (_ : Unit) (t : State) => zPost dC dI A (rW Q R.2) (rT Q) t) A) args s 0 0 A) (F0 m 16 ls []) := by
  intro σ  H locs ls hf hP hD hS hl
  unfold f_X12_isLetter_16 at hf
  refine lv_iconst (v := 0) hx hb dX12_isLetter_16 (by decide) ?_
  obtain rfl := Option.some.inj hf
  exact W.zret (v := 0) hx hb hr (rfl) (fun t ht hW => ⟨⟨0, (), rfl, rfl, by rw [ht]; exact hP, va_K.moved hW.alike hK, hD⟩, hS.F ht⟩) hS.2.2 dX12_isLetter_17
set_option maxHeartbeats 4000000 in
set_option maxRecDepth 100000 in
theorem c_X12_isLetter (l : Launch) (dC : Nat → ClassId) (dI : Nat → Nat → Nat) (sz : Nat) (Q : RQ) (N : Nat) (σ : RS) (x0 : Int32) (R : Int32 × RS) (hf : f_X12_isLetter N σ x0 = some R) : Met l yX12_isLetter wzX12_isLetter ({ frames := 1, cells := 0, slots := 0, locals := 60 }) (va_Pc [.int x0] (zPre dC dI sz (rW Q σ) (rT Q))) (va_Qi (fun (r : Int32) (_ : Unit) => r = R.1) (fun (_ : Unit) (t : State) => zPost dC dI (va_A (rW Q σ) sz) (rW Q R.2) (rT Q) t) (va_A (rW Q σ) sz)) 0 0 (va_A (rW Q σ) sz) := by
  refine Met.ofW (cc := cX12_isLetter) (maxL := 1) (ret := (some .boolean)) (by decide) rfl ?_
  intro p e s m args below meth c s₁ B hml hv
  obtain ⟨rfl, hsz, hZ, hP, hK, hD0⟩ := hv
  have hx := B.exec
  have hb := B.bytes
  have hr := B.returns
  have hts := atoms_spec (ws := wzX12_isLetter) B.pre
  have hown : s.vm.findClass RX12 = some m.cls := findClass_of_methodNamed B.named
  have hlocks := B.notSynchronized
  subst hsz
  have hD := hD0.self (sz := s.heap.size)
  generalize hAe : va_A (rW Q σ) s.heap.size = A at hD ⊢
  have hA : ∀ q : Nat, s.heap.size ≤ q → A q := fun q h => by rw [← hAe]; exact Or.inr h
  have hS : va_S A s.heap s.heap [] := va_S.rf
  have hl := lv_entry ([.int x0]) (n := 1) (Nat.le_of_ble_eq_true rfl)
  rw [lg_entry_eq]
  generalize (lg_sl ([.int x0]) ++ List.replicate (1 - (lg_sl ([.int x0])).length) Slot.unset).toArray = ls at hl ⊢
  have hl : lv_has ls 1 [(0, .int x0)] := hl
  unfold f_X12_isLetter at hf
  refine lv_iload_n hx hb dX12_isLetter_0 rfl (lv_at hl 0 rfl) ?_
  refine lv_bipush (v := 97) hx hb dX12_isLetter_1 (by decide) ?_
  refine lv_icmp_lt (tgt := 16) hx hb dX12_isLetter_3 (by decide) (fun c1 => ?_) (fun c1 => ?_)
  ·
    replace hf := (if_pos c1).symm.trans hf
    exact j_X12_isLetter_16 l dC dI Q N R hx hb hr hml hown hts hlocks hZ hA hK σ _ _ _ hf hP hD hS (lv_sub hl [] rfl)
  ·
    replace hf := (if_neg c1).symm.trans hf
    refine lv_iload_n hx hb dX12_isLetter_6 rfl (lv_at hl 0 rfl) ?_
    refine lv_bipush (v := 122) hx hb dX12_isLetter_7 (by decide) ?_
    refine lv_icmp_gt (tgt := 16) hx hb dX12_isLetter_9 (by decide) (fun c2 => ?_) (fun c2 => ?_)
    ·
      replace hf := (if_pos c2).symm.trans hf
      exact j_X12_isLetter_16 l dC dI Q N R hx hb hr hml hown hts hlocks hZ hA hK σ _ _ _ hf hP hD hS (lv_sub hl [] rfl)
    ·
      replace hf := (if_neg c2).symm.trans hf
      refine lv_iconst (v := 1) hx hb dX12_isLetter_12 (by decide) ?_
      refine lv_goto (tgt := 17) hx hb dX12_isLetter_13 (by decide) ?_
      obtain rfl := Option.some.inj hf
      exact W.zret (v := 1) hx hb hr (rfl) (fun t ht hW => ⟨⟨1, (), rfl, rfl, by rw [ht]; exact hP, va_K.moved hW.alike hK, hD⟩, hS.F ht⟩) hS.2.2 dX12_isLetter_17
set_option maxHeartbeats 4000000 in
set_option maxRecDepth 100000 in
theorem j_X12_isDigit_16 {p : Program} {e : Env} {s : State} {m : MethodId} {args : Array Value} {below : List Frame} {meth : Method} {c : Code} {A : Nat → Prop} (l : Launch) (dC : Nat → ClassId) (dI : Nat → Nat → Nat) (Q : RQ) (N : Nat) (R : Int32 × RS) (hx : p.tables.exec = Jvm.exec) (hb : c.code = cX12_isDigit) (hr : meth.sig.returnType = (some .boolean)) (hml : c.maxLocals = 1) (hown : s.vm.findClass RX12 = some m.cls) (hts : ∀ w ∈ wzX12_isDigit, w.before args s = true) (hlocks : meth.locks = false) (hZ : zAMB s) (hA : ∀ q : Nat, s.heap.size ≤ q → A q) (hK : va_K (dC, dI) vwCl (rT Q) s) : ∀ (σ : RS) (H : Heap) (locs : List Loc) (ls : Array Slot), f_X12_isDigit_16 N σ = some R → va_P (dC, dI) vwCl (rW Q σ) H → va_D A (rW Q σ) → va_S A s.heap H locs → lv_has ls 1 [] → W p l e ({ frames := 1, cells := 0, slots := 0, locals := 60 }) s m args below meth c H locs 0 0 (MQ below (va_Qi (fun (r : Int32) (_ : Unit) => r = R.1) (fun (_ : Unit) (t : State) => zPost dC dI A (rW Q R.2) (rT Q) t) A) args s 0 0 A) (F0 m 16 ls []) := by
  intro σ  H locs ls hf hP hD hS hl
  unfold f_X12_isDigit_16 at hf
  refine lv_iconst (v := 0) hx hb dX12_isDigit_16 (by decide) ?_
  obtain rfl := Option.some.inj hf
  exact W.zret (v := 0) hx hb hr (rfl) (fun t ht hW => ⟨⟨0, (), rfl, rfl, by rw [ht]; exact hP, va_K.moved hW.alike hK, hD⟩, hS.F ht⟩) hS.2.2 dX12_isDigit_17
set_option maxHeartbeats 4000000 in
set_option maxRecDepth 100000 in
theorem c_X12_isDigit (l : Launch) (dC : Nat → ClassId) (dI : Nat → Nat → Nat) (sz : Nat) (Q : RQ) (N : Nat) (σ : RS) (x0 : Int32) (R : Int32 × RS) (hf : f_X12_isDigit N σ x0 = some R) : Met l yX12_isDigit wzX12_isDigit ({ frames := 1, cells := 0, slots := 0, locals := 60 }) (va_Pc [.int x0] (zPre dC dI sz (rW Q σ) (rT Q))) (va_Qi (fun (r : Int32) (_ : Unit) => r = R.1) (fun (_ : Unit) (t : State) => zPost dC dI (va_A (rW Q σ) sz) (rW Q R.2) (rT Q) t) (va_A (rW Q σ) sz)) 0 0 (va_A (rW Q σ) sz) := by
  refine Met.ofW (cc := cX12_isDigit) (maxL := 1) (ret := (some .boolean)) (by decide) rfl ?_
  intro p e s m args below meth c s₁ B hml hv
  obtain ⟨rfl, hsz, hZ, hP, hK, hD0⟩ := hv
  have hx := B.exec
  have hb := B.bytes
  have hr := B.returns
  have hts := atoms_spec (ws := wzX12_isDigit) B.pre
  have hown : s.vm.findClass RX12 = some m.cls := findClass_of_methodNamed B.named
  have hlocks := B.notSynchronized
  subst hsz
  have hD := hD0.self (sz := s.heap.size)
  generalize hAe : va_A (rW Q σ) s.heap.size = A at hD ⊢
  have hA : ∀ q : Nat, s.heap.size ≤ q → A q := fun q h => by rw [← hAe]; exact Or.inr h
  have hS : va_S A s.heap s.heap [] := va_S.rf
  have hl := lv_entry ([.int x0]) (n := 1) (Nat.le_of_ble_eq_true rfl)
  rw [lg_entry_eq]
  generalize (lg_sl ([.int x0]) ++ List.replicate (1 - (lg_sl ([.int x0])).length) Slot.unset).toArray = ls at hl ⊢
  have hl : lv_has ls 1 [(0, .int x0)] := hl
  unfold f_X12_isDigit at hf
  refine lv_iload_n hx hb dX12_isDigit_0 rfl (lv_at hl 0 rfl) ?_
  refine lv_bipush (v := 48) hx hb dX12_isDigit_1 (by decide) ?_
  refine lv_icmp_lt (tgt := 16) hx hb dX12_isDigit_3 (by decide) (fun c1 => ?_) (fun c1 => ?_)
  ·
    replace hf := (if_pos c1).symm.trans hf
    exact j_X12_isDigit_16 l dC dI Q N R hx hb hr hml hown hts hlocks hZ hA hK σ _ _ _ hf hP hD hS (lv_sub hl [] rfl)
  ·
    replace hf := (if_neg c1).symm.trans hf
    refine lv_iload_n hx hb dX12_isDigit_6 rfl (lv_at hl 0 rfl) ?_
    refine lv_bipush (v := 57) hx hb dX12_isDigit_7 (by decide) ?_
    refine lv_icmp_gt (tgt := 16) hx hb dX12_isDigit_9 (by decide) (fun c2 => ?_) (fun c2 => ?_)
    ·
      replace hf := (if_pos c2).symm.trans hf
      exact j_X12_isDigit_16 l dC dI Q N R hx hb hr hml hown hts hlocks hZ hA hK σ _ _ _ hf hP hD hS (lv_sub hl [] rfl)
    ·
      replace hf := (if_neg c2).symm.trans hf
      refine lv_iconst (v := 1) hx hb dX12_isDigit_12 (by decide) ?_
      refine lv_goto (tgt := 17) hx hb dX12_isDigit_13 (by decide) ?_
      obtain rfl := Option.some.inj hf
      exact W.zret (v := 1) hx hb hr (rfl) (fun t ht hW => ⟨⟨1, (), rfl, rfl, by rw [ht]; exact hP, va_K.moved hW.alike hK, hD⟩, hS.F ht⟩) hS.2.2 dX12_isDigit_17
theorem k_X12_readName_fieldLink_RX12_327_SRModel_name_J : Cond.fieldLink RX12 327 "StatementRules2Model" "name" "J" ∈ wzX12_readName := List.mem_cons_of_mem _ (List.mem_append_left _ (List.mem_of_getElem? (i := 0) rfl))
theorem i_X12_readName_X12 : ∀ w ∈ wsX120, w ∈ wzX12_readName := fun _ h => List.mem_cons_of_mem _ (List.mem_append_right _ (List.mem_append_left _ (h)))
theorem k_X12_readName_fieldLink_RX12_297_SRModel_to_I : Cond.fieldLink RX12 297 "StatementRules2Model" "to" "I" ∈ wzX12_readName := List.mem_cons_of_mem _ (List.mem_append_left _ (List.mem_of_getElem? (i := 1) rfl))
theorem k_X12_readName_fieldLink_RX12_304_SRModel_from_I : Cond.fieldLink RX12 304 "StatementRules2Model" "from" "I" ∈ wzX12_readName := List.mem_cons_of_mem _ (List.mem_append_left _ (List.mem_of_getElem? (i := 2) rfl))
theorem k_X12_readName_fieldLink_RX12_307_SRModel_tok_I : Cond.fieldLink RX12 307 "StatementRules2Model" "tok" "I" ∈ wzX12_readName := List.mem_cons_of_mem _ (List.mem_append_left _ (List.mem_of_getElem? (i := 3) rfl))
theorem k_X12_readName_fieldLink_RX12_80_SRModel_words_J : Cond.fieldLink RX12 80 "StatementRules2Model" "words" "[J" ∈ wzX12_readName := List.mem_cons_of_mem _ (List.mem_append_left _ (List.mem_of_getElem? (i := 4) rfl))
theorem k_X12_readName_fieldLink_RX12_314_SRModel_number_I : Cond.fieldLink RX12 314 "StatementRules2Model" "number" "I" ∈ wzX12_readName := List.mem_cons_of_mem _ (List.mem_append_left _ (List.mem_of_getElem? (i := 5) rfl))
set_option maxHeartbeats 4000000 in
set_option maxRecDepth 100000 in
theorem j_X12_readName_260 {p : Program} {e : Env} {s : State} {m : MethodId} {args : Array Value} {below : List Frame} {meth : Method} {c : Code} {A : Nat → Prop} (l : Launch) (dC : Nat → ClassId) (dI : Nat → Nat → Nat) (Q : RQ) (N : Nat) (R : RS) (hx : p.tables.exec = Jvm.exec) (hb : c.code = cX12_readName) (hr : meth.sig.returnType = none) (hml : c.maxLocals = 5) (hown : s.vm.findClass RX12 = some m.cls) (hts : ∀ w ∈ wzX12_readName, w.before args s = true) (hlocks : meth.locks = false) (hZ : zAMB s) (hA : ∀ q : Nat, s.heap.size ≤ q → A q) (hK : va_K (dC, dI) vwCl (rT Q) s) : ∀ (n9 : Nat), ∀ (σ : RS) (x4 : Int32) (H : Heap) (locs : List Loc) (ls : Array Slot), f_X12_readName_260 N n9 σ x4 = some R → va_P (dC, dI) vwCl (rW Q σ) H → va_D A (rW Q σ) → va_S A s.heap H locs → lv_has ls 5 [(0, .ref Q.h0), (4, .int x4)] → W p l e ({ frames := 2, cells := 0, slots := 0, locals := 120 }) s m args below meth c H locs 0 0 (MQ below (va_Qv (fun (_ : Unit) => True) (fun (_ : Unit) (t : State) => zPost dC dI A (rW Q R) (rT Q) t) A) args s 0 0 A) (F0 m 260 ls []) := by
  intro n9
  induction n9 with
  | zero => intro σ x4 H locs ls hf; exact absurd hf (by intro h9; cases h9)
  | succ n9 ih =>
    intro σ x4 H locs ls hf hP hD hS hl
    replace hf : b_X12_readName_260 N (f_X12_readName_260 N n9) σ x4 = some R := hf
    unfold b_X12_readName_260 at hf
    refine lv_iload hx hb dX12_readName_260 (lv_at hl 1 rfl) ?_
    refine lv_bipush (v := 25) hx hb dX12_readName_262 (by decide) ?_
    refine lv_icmp_ge (tgt := 305) hx hb dX12_readName_264 (by decide) (fun c20 => ?_) (fun c20 => ?_)
    ·
      replace hf := (if_pos c20).symm.trans hf
      obtain rfl := Option.some.inj hf
      exact W.vret hx hb hr (fun t ht hW => ⟨⟨(), rfl, trivial, by rw [ht]; exact hP, va_K.moved hW.alike hK, hD⟩, hS.F ht⟩) hS.2.2 dX12_readName_305
    ·
      replace hf := (if_neg c20).symm.trans hf
      refine lv_aload_n hx hb dX12_readName_267 rfl (lv_at hl 0 rfl) ?_
      refine lv_aload_n hx hb dX12_readName_268 rfl (lv_at hl 0 rfl) ?_
      refine rG_9 hx hb hts i_X12_readName_X12 hown hK hP (hts (.fieldLink RX12 80 "StatementRules2Model" "words" "[J") k_X12_readName_fieldLink_RX12_80_SRModel_words_J) dX12_readName_269 ?_
      refine lv_iload hx hb dX12_readName_272 (lv_at hl 1 rfl) ?_
      obtain ⟨b21, hf⟩ := hf_ite hf
      refine rL_9 (v := (σ.b 9 ((x4 : Int32).toNatClampNeg))) hx hb hK hP b21 dX12_readName_274 rfl ?_
      refine lv_aload_n hx hb dX12_readName_275 rfl (lv_at hl 0 rfl) ?_
      refine rG_13 (v := σ.l) hx hb hts i_X12_readName_X12 hown hK hP (hts (.fieldLink RX12 327 "StatementRules2Model" "name" "J") k_X12_readName_fieldLink_RX12_327_SRModel_name_J) dX12_readName_276 rfl ?_
      refine W.lcmp hx hb dX12_readName_279 ?_
      refine lv_if_ne (tgt := 292) hx hb dX12_readName_280 (by decide) (fun c22 => ?_) (fun c22 => ?_)
      ·
        replace hf := (if_neg c22).symm.trans hf
        refine lv_aload_n hx hb dX12_readName_292 rfl (lv_at hl 0 rfl) ?_
        refine rG_10 (v := (σ.i 10)) hx hb hts i_X12_readName_X12 hown hK hP (hts (.fieldLink RX12 307 "StatementRules2Model" "tok" "I") k_X12_readName_fieldLink_RX12_307_SRModel_tok_I) dX12_readName_293 rfl ?_
        refine rP_10 hx hb hts i_X12_readName_X12 hown hK hP hD hS (hts (.fieldLink RX12 307 "StatementRules2Model" "tok" "I") k_X12_readName_fieldLink_RX12_307_SRModel_tok_I) dX12_readName_296 (fun H locs hP hD hS => ?_)
        refine lv_iinc (v := (x4 + 1)) (lv' := [(4, .int (x4 + 1)), (0, .ref Q.h0)]) hx hb dX12_readName_299 hl (k := 1) rfl rfl (by decide) rfl (fun ls hl => ?_)
        refine lv_goto (tgt := 260) hx hb dX12_readName_302 (by decide) ?_
        exact ih (RS.setI σ 10 (σ.i 10)) (x4 + 1) _ _ _ hf hP hD hS (lv_sub hl [1, 0] rfl)
      ·
        replace hf := (if_pos c22).symm.trans hf
        refine lv_sipush (v := 410) hx hb dX12_readName_283 (by decide) ?_
        refine lv_iload hx hb dX12_readName_286 (lv_at hl 1 rfl) ?_
        refine lv_iadd hx hb dX12_readName_288 ?_
        refine lv_goto (tgt := 296) hx hb dX12_readName_289 (by decide) ?_
        refine rP_10 hx hb hts i_X12_readName_X12 hown hK hP hD hS (hts (.fieldLink RX12 307 "StatementRules2Model" "tok" "I") k_X12_readName_fieldLink_RX12_307_SRModel_tok_I) dX12_readName_296 (fun H locs hP hD hS => ?_)
        refine lv_iinc (v := (x4 + 1)) (lv' := [(4, .int (x4 + 1)), (0, .ref Q.h0)]) hx hb dX12_readName_299 hl (k := 1) rfl rfl (by decide) rfl (fun ls hl => ?_)
        refine lv_goto (tgt := 260) hx hb dX12_readName_302 (by decide) ?_
        exact ih (RS.setI σ 10 (410 + x4)) (x4 + 1) _ _ _ hf hP hD hS (lv_sub hl [1, 0] rfl)
set_option maxHeartbeats 4000000 in
set_option maxRecDepth 100000 in
theorem j_X12_readName_257 {p : Program} {e : Env} {s : State} {m : MethodId} {args : Array Value} {below : List Frame} {meth : Method} {c : Code} {A : Nat → Prop} (l : Launch) (dC : Nat → ClassId) (dI : Nat → Nat → Nat) (Q : RQ) (N : Nat) (R : RS) (hx : p.tables.exec = Jvm.exec) (hb : c.code = cX12_readName) (hr : meth.sig.returnType = none) (hml : c.maxLocals = 5) (hown : s.vm.findClass RX12 = some m.cls) (hts : ∀ w ∈ wzX12_readName, w.before args s = true) (hlocks : meth.locks = false) (hZ : zAMB s) (hA : ∀ q : Nat, s.heap.size ≤ q → A q) (hK : va_K (dC, dI) vwCl (rT Q) s) : ∀ (σ : RS) (H : Heap) (locs : List Loc) (ls : Array Slot), f_X12_readName_257 N σ = some R → va_P (dC, dI) vwCl (rW Q σ) H → va_D A (rW Q σ) → va_S A s.heap H locs → lv_has ls 5 [(0, .ref Q.h0)] → W p l e ({ frames := 2, cells := 0, slots := 0, locals := 120 }) s m args below meth c H locs 0 0 (MQ below (va_Qv (fun (_ : Unit) => True) (fun (_ : Unit) (t : State) => zPost dC dI A (rW Q R) (rT Q) t) A) args s 0 0 A) (F0 m 257 ls []) := by
  intro σ  H locs ls hf hP hD hS hl
  unfold f_X12_readName_257 at hf
  refine lv_iconst (v := 0) hx hb dX12_readName_257 (by decide) ?_
  refine lv_istore (lv' := [(4, .int 0), (0, .ref Q.h0)]) hx hb dX12_readName_258 hl (by decide) rfl (fun ls hl => ?_)
  exact j_X12_readName_260 l dC dI Q N R hx hb hr hml hown hts hlocks hZ hA hK N σ 0 _ _ _ hf hP hD hS (lv_sub hl [1, 0] rfl)
set_option maxHeartbeats 4000000 in
set_option maxRecDepth 100000 in
theorem j_X12_readName_254 {p : Program} {e : Env} {s : State} {m : MethodId} {args : Array Value} {below : List Frame} {meth : Method} {c : Code} {A : Nat → Prop} (l : Launch) (dC : Nat → ClassId) (dI : Nat → Nat → Nat) (Q : RQ) (N : Nat) (R : RS) (hx : p.tables.exec = Jvm.exec) (hb : c.code = cX12_readName) (hr : meth.sig.returnType = none) (hml : c.maxLocals = 5) (hown : s.vm.findClass RX12 = some m.cls) (hts : ∀ w ∈ wzX12_readName, w.before args s = true) (hlocks : meth.locks = false) (hZ : zAMB s) (hA : ∀ q : Nat, s.heap.size ≤ q → A q) (hK : va_K (dC, dI) vwCl (rT Q) s) : ∀ (σ : RS) (H : Heap) (locs : List Loc) (ls : Array Slot), f_X12_readName_254 N σ = some R → va_P (dC, dI) vwCl (rW Q σ) H → va_D A (rW Q σ) → va_S A s.heap H locs → lv_has ls 5 [] → W p l e ({ frames := 2, cells := 0, slots := 0, locals := 120 }) s m args below meth c H locs 0 0 (MQ below (va_Qv (fun (_ : Unit) => True) (fun (_ : Unit) (t : State) => zPost dC dI A (rW Q R) (rT Q) t) A) args s 0 0 A) (F0 m 254 ls []) := by
  intro σ  H locs ls hf hP hD hS hl
  unfold f_X12_readName_254 at hf
  refine lv_goto (tgt := 305) hx hb dX12_readName_254 (by decide) ?_
  obtain rfl := Option.some.inj hf
  exact W.vret hx hb hr (fun t ht hW => ⟨⟨(), rfl, trivial, by rw [ht]; exact hP, va_K.moved hW.alike hK, hD⟩, hS.F ht⟩) hS.2.2 dX12_readName_305
set_option maxHeartbeats 4000000 in
set_option maxRecDepth 100000 in
theorem j_X12_readName_220 {p : Program} {e : Env} {s : State} {m : MethodId} {args : Array Value} {below : List Frame} {meth : Method} {c : Code} {A : Nat → Prop} (l : Launch) (dC : Nat → ClassId) (dI : Nat → Nat → Nat) (Q : RQ) (N : Nat) (R : RS) (hx : p.tables.exec = Jvm.exec) (hb : c.code = cX12_readName) (hr : meth.sig.returnType = none) (hml : c.maxLocals = 5) (hown : s.vm.findClass RX12 = some m.cls) (hts : ∀ w ∈ wzX12_readName, w.before args s = true) (hlocks : meth.locks = false) (hZ : zAMB s) (hA : ∀ q : Nat, s.heap.size ≤ q → A q) (hK : va_K (dC, dI) vwCl (rT Q) s) : ∀ (σ : RS) (x1 : Int32) (x3 : Int32) (H : Heap) (locs : List Loc) (ls : Array Slot), f_X12_readName_220 N σ x1 x3 = some R → va_P (dC, dI) vwCl (rW Q σ) H → va_D A (rW Q σ) → va_S A s.heap H locs → lv_has ls 5 [(0, .ref Q.h0), (1, .int x1), (3, .int x3)] → W p l e ({ frames := 2, cells := 0, slots := 0, locals := 120 }) s m args below meth c H locs 0 0 (MQ below (va_Qv (fun (_ : Unit) => True) (fun (_ : Unit) (t : State) => zPost dC dI A (rW Q R) (rT Q) t) A) args s 0 0 A) (F0 m 220 ls []) := by
  intro σ x1 x3 H locs ls hf hP hD hS hl
  unfold f_X12_readName_220 at hf
  refine lv_aload_n hx hb dX12_readName_220 rfl (lv_at hl 0 rfl) ?_
  refine lv_iconst (v := 5) hx hb dX12_readName_221 (by decide) ?_
  refine rP_10 hx hb hts i_X12_readName_X12 hown hK hP hD hS (hts (.fieldLink RX12 307 "StatementRules2Model" "tok" "I") k_X12_readName_fieldLink_RX12_307_SRModel_tok_I) dX12_readName_222 (fun H locs hP hD hS => ?_)
  refine lv_aload_n hx hb dX12_readName_225 rfl (lv_at hl 0 rfl) ?_
  refine lv_iload_n hx hb dX12_readName_226 rfl (lv_at hl 1 rfl) ?_
  refine lv_iconst (v := 2) hx hb dX12_readName_227 (by decide) ?_
  refine lv_icmp_ne (tgt := 235) hx hb dX12_readName_228 (by decide) (fun c31 => ?_) (fun c31 => ?_)
  ·
    replace hf := (if_neg c31).symm.trans hf
    refine lv_bipush (v := 10) hx hb dX12_readName_235 (by decide) ?_
    refine lv_aload_n hx hb dX12_readName_237 rfl (lv_at hl 0 rfl) ?_
    refine lv_aload_n hx hb dX12_readName_238 rfl (lv_at hl 0 rfl) ?_
    refine rG_11 (v := (σ.i 11)) hx hb hts i_X12_readName_X12 hown hK hP (hts (.fieldLink RX12 304 "StatementRules2Model" "from" "I") k_X12_readName_fieldLink_RX12_304_SRModel_from_I) dX12_readName_239 rfl ?_
    refine lv_iconst (v := 2) hx hb dX12_readName_242 (by decide) ?_
    refine lv_iadd hx hb dX12_readName_243 ?_
    obtain ⟨p32, hcp32, hf⟩ := hf_bind hf
    have hFc := r_free hD hS hA
    refine va_calli (va_runV (As := [.int ((σ.i 11) + 2)]) (rest := [.int 10, .ref Q.h0]) ⟨hx, hb, hml, hown, hts⟩ (c_X12_at l dC dI _ Q N (RS.setI σ 10 5) ((σ.i 11) + 2) p32 hcp32) (cwV 1 hts hX12_readName_X12_at_v300 rfl rfl rfl (by decide +kernel) ⟨Nat.le_of_ble_eq_true rfl, Nat.le_of_ble_eq_true rfl⟩) ⟨zPre.blind, va_recv hK hP (ci := 11) (q0 := 0) rfl rfl, zPre.go hZ hP hK hD⟩ rfl rfl hl.1 rfl (lv_room (Nat.le_of_ble_eq_true rfl)) dX12_readName_244 ⟨Nat.le_of_ble_eq_true rfl, Nat.le_of_ble_eq_true rfl⟩) hS (fun q _ h => hFc q h) hFc (fun r33 u9 t9 H1 locs ht hvm hw hB hz1 hk1 hS => ?_)
    obtain ⟨hP, hK1, hD1⟩ := hB
    rw [ht] at hP
    have hD := hD1.weaken (fun _ _ _ h => hFc _ h)
    generalize H1 = H at hP hS ⊢
    obtain rfl : r33 = p32.1 := hw
    refine lv_iadd hx hb dX12_readName_247 ?_
    refine lv_bipush (v := 48) hx hb dX12_readName_248 (by decide) ?_
    refine lv_isub hx hb dX12_readName_250 ?_
    refine rP_14 hx hb hts i_X12_readName_X12 hown hK hP hD hS (hts (.fieldLink RX12 314 "StatementRules2Model" "number" "I") k_X12_readName_fieldLink_RX12_314_SRModel_number_I) dX12_readName_251 (fun H locs hP hD hS => ?_)
    exact j_X12_readName_254 l dC dI Q N R hx hb hr hml hown hts hlocks hZ hA hK (RS.setI p32.2 14 ((10 + p32.1) - 48)) _ _ _ hf hP hD hS (lv_sub hl [] rfl)
  ·
    replace hf := (if_pos c31).symm.trans hf
    refine lv_iload_n hx hb dX12_readName_231 rfl (lv_at hl 2 rfl) ?_
    refine lv_goto (tgt := 251) hx hb dX12_readName_232 (by decide) ?_
    refine rP_14 hx hb hts i_X12_readName_X12 hown hK hP hD hS (hts (.fieldLink RX12 314 "StatementRules2Model" "number" "I") k_X12_readName_fieldLink_RX12_314_SRModel_number_I) dX12_readName_251 (fun H locs hP hD hS => ?_)
    exact j_X12_readName_254 l dC dI Q N R hx hb hr hml hown hts hlocks hZ hA hK (RS.setI (RS.setI σ 10 5) 14 x3) _ _ _ hf hP hD hS (lv_sub hl [] rfl)
set_option maxHeartbeats 4000000 in
set_option maxRecDepth 100000 in
theorem j_X12_readName_189 {p : Program} {e : Env} {s : State} {m : MethodId} {args : Array Value} {below : List Frame} {meth : Method} {c : Code} {A : Nat → Prop} (l : Launch) (dC : Nat → ClassId) (dI : Nat → Nat → Nat) (Q : RQ) (N : Nat) (R : RS) (hx : p.tables.exec = Jvm.exec) (hb : c.code = cX12_readName) (hr : meth.sig.returnType = none) (hml : c.maxLocals = 5) (hown : s.vm.findClass RX12 = some m.cls) (hts : ∀ w ∈ wzX12_readName, w.before args s = true) (hlocks : meth.locks = false) (hZ : zAMB s) (hA : ∀ q : Nat, s.heap.size ≤ q → A q) (hK : va_K (dC, dI) vwCl (rT Q) s) : ∀ (σ : RS) (x1 : Int32) (x3 : Int32) (H : Heap) (locs : List Loc) (ls : Array Slot), f_X12_readName_189 N σ x1 x3 = some R → va_P (dC, dI) vwCl (rW Q σ) H → va_D A (rW Q σ) → va_S A s.heap H locs → lv_has ls 5 [(0, .ref Q.h0), (1, .int x1), (3, .int x3)] → W p l e ({ frames := 2, cells := 0, slots := 0, locals := 120 }) s m args below meth c H locs 0 0 (MQ below (va_Qv (fun (_ : Unit) => True) (fun (_ : Unit) (t : State) => zPost dC dI A (rW Q R) (rT Q) t) A) args s 0 0 A) (F0 m 189 ls []) := by
  intro σ x1 x3 H locs ls hf hP hD hS hl
  unfold f_X12_readName_189 at hf
  refine lv_iload_n hx hb dX12_readName_189 rfl (lv_at hl 1 rfl) ?_
  refine lv_iconst (v := 3) hx hb dX12_readName_190 (by decide) ?_
  refine lv_icmp_ne (tgt := 257) hx hb dX12_readName_191 (by decide) (fun c24 => ?_) (fun c24 => ?_)
  ·
    replace hf := (if_neg c24).symm.trans hf
    exact j_X12_readName_257 l dC dI Q N R hx hb hr hml hown hts hlocks hZ hA hK σ _ _ _ hf hP hD hS (lv_sub hl [0] rfl)
  ·
    replace hf := (if_pos c24).symm.trans hf
    refine lv_iload_n hx hb dX12_readName_194 rfl (lv_at hl 2 rfl) ?_
    refine lv_iconst (v := 1) hx hb dX12_readName_195 (by decide) ?_
    refine lv_icmp_ne (tgt := 257) hx hb dX12_readName_196 (by decide) (fun c25 => ?_) (fun c25 => ?_)
    ·
      replace hf := (if_neg c25).symm.trans hf
      exact j_X12_readName_257 l dC dI Q N R hx hb hr hml hown hts hlocks hZ hA hK σ _ _ _ hf hP hD hS (lv_sub hl [0] rfl)
    ·
      replace hf := (if_pos c25).symm.trans hf
      refine lv_aload_n hx hb dX12_readName_199 rfl (lv_at hl 0 rfl) ?_
      refine lv_aload_n hx hb dX12_readName_200 rfl (lv_at hl 0 rfl) ?_
      refine rG_11 (v := (σ.i 11)) hx hb hts i_X12_readName_X12 hown hK hP (hts (.fieldLink RX12 304 "StatementRules2Model" "from" "I") k_X12_readName_fieldLink_RX12_304_SRModel_from_I) dX12_readName_201 rfl ?_
      refine lv_iconst (v := 2) hx hb dX12_readName_204 (by decide) ?_
      refine lv_iadd hx hb dX12_readName_205 ?_
      obtain ⟨p26, hcp26, hf⟩ := hf_bind hf
      have hFc := r_free hD hS hA
      refine va_calli (va_runV (As := [.int ((σ.i 11) + 2)]) (rest := []) ⟨hx, hb, hml, hown, hts⟩ (c_X12_at l dC dI _ Q N σ ((σ.i 11) + 2) p26 hcp26) (cwV 1 hts hX12_readName_X12_at_v300 rfl rfl rfl (by decide +kernel) ⟨Nat.le_of_ble_eq_true rfl, Nat.le_of_ble_eq_true rfl⟩) ⟨zPre.blind, va_recv hK hP (ci := 11) (q0 := 0) rfl rfl, zPre.go hZ hP hK hD⟩ rfl rfl hl.1 rfl (lv_room (Nat.le_of_ble_eq_true rfl)) dX12_readName_206 ⟨Nat.le_of_ble_eq_true rfl, Nat.le_of_ble_eq_true rfl⟩) hS (fun q _ h => hFc q h) hFc (fun r27 u9 t9 H1 locs ht hvm hw hB hz1 hk1 hS => ?_)
      obtain ⟨hP, hK1, hD1⟩ := hB
      rw [ht] at hP
      have hD := hD1.weaken (fun _ _ _ h => hFc _ h)
      generalize H1 = H at hP hS ⊢
      obtain rfl : r27 = p26.1 := hw
      refine lv_bipush (v := 48) hx hb dX12_readName_209 (by decide) ?_
      refine lv_isub hx hb dX12_readName_211 ?_
      refine lv_iconst (v := 0) hx hb dX12_readName_212 (by decide) ?_
      refine lv_iconst (v := 1) hx hb dX12_readName_213 (by decide) ?_
      obtain ⟨p28, hcp28, hf⟩ := hf_bind hf
      have hFc := r_free hD hS hA
      refine va_calli (va_runS (As := [.int (p26.1 - 48), .int 0, .int 1]) (rest := []) ⟨hx, hb, hml, hown, hts⟩ (c_X12_in l dC dI _ Q N p26.2 (p26.1 - 48) 0 1 p28 hcp28) (va_cwS 3 hts hX12_readName_X12_in_s279 rfl rfl rfl (by decide +kernel) ⟨Nat.le_of_ble_eq_true rfl, Nat.le_of_ble_eq_true rfl⟩) ⟨zPre.blind, zPre.go hZ hP hK hD⟩ rfl rfl hl.1 rfl (lv_room (Nat.le_of_ble_eq_true rfl)) dX12_readName_214 ⟨Nat.le_of_ble_eq_true rfl, Nat.le_of_ble_eq_true rfl⟩) hS (fun q _ h => hFc q h) hFc (fun r29 u9 t9 H1 locs ht hvm hw hB hz1 hk1 hS => ?_)
      obtain ⟨hP, hK1, hD1⟩ := hB
      rw [ht] at hP
      have hD := hD1.weaken (fun _ _ _ h => hFc _ h)
      generalize H1 = H at hP hS ⊢
      obtain rfl : r29 = p28.1 := hw
      refine lv_if_eq (tgt := 257) hx hb dX12_readName_217 (by decide) (fun c30 => ?_) (fun c30 => ?_)
      ·
        replace hf := (if_pos c30).symm.trans hf
        exact j_X12_readName_257 l dC dI Q N R hx hb hr hml hown hts hlocks hZ hA hK p28.2 _ _ _ hf hP hD hS (lv_sub hl [0] rfl)
      ·
        replace hf := (if_neg c30).symm.trans hf
        exact j_X12_readName_220 l dC dI Q N R hx hb hr hml hown hts hlocks hZ hA hK p28.2 x1 x3 _ _ _ hf hP hD hS (lv_sub hl [0, 1, 2] rfl)
set_option maxHeartbeats 4000000 in
set_option maxRecDepth 100000 in
theorem j_X12_readName_168 {p : Program} {e : Env} {s : State} {m : MethodId} {args : Array Value} {below : List Frame} {meth : Method} {c : Code} {A : Nat → Prop} (l : Launch) (dC : Nat → ClassId) (dI : Nat → Nat → Nat) (Q : RQ) (N : Nat) (R : RS) (hx : p.tables.exec = Jvm.exec) (hb : c.code = cX12_readName) (hr : meth.sig.returnType = none) (hml : c.maxLocals = 5) (hown : s.vm.findClass RX12 = some m.cls) (hts : ∀ w ∈ wzX12_readName, w.before args s = true) (hlocks : meth.locks = false) (hZ : zAMB s) (hA : ∀ q : Nat, s.heap.size ≤ q → A q) (hK : va_K (dC, dI) vwCl (rT Q) s) : ∀ (σ : RS) (x1 : Int32) (x2 : Int32) (x3 : Int32) (H : Heap) (locs : List Loc) (ls : Array Slot), f_X12_readName_168 N σ x1 x2 x3 = some R → va_P (dC, dI) vwCl (rW Q σ) H → va_D A (rW Q σ) → va_S A s.heap H locs → lv_has ls 5 [(0, .ref Q.h0), (1, .int x1), (2, .int x2), (3, .int x3)] → W p l e ({ frames := 2, cells := 0, slots := 0, locals := 120 }) s m args below meth c H locs 0 0 (MQ below (va_Qv (fun (_ : Unit) => True) (fun (_ : Unit) (t : State) => zPost dC dI A (rW Q R) (rT Q) t) A) args s 0 0 A) (F0 m 168 ls []) := by
  intro σ x1 x2 x3 H locs ls hf hP hD hS hl
  unfold f_X12_readName_168 at hf
  refine lv_iload_n hx hb dX12_readName_168 rfl (lv_at hl 2 rfl) ?_
  refine lv_bipush (v := 101) hx hb dX12_readName_169 (by decide) ?_
  refine lv_icmp_ne (tgt := 257) hx hb dX12_readName_171 (by decide) (fun c19 => ?_) (fun c19 => ?_)
  ·
    replace hf := (if_neg c19).symm.trans hf
    exact j_X12_readName_257 l dC dI Q N R hx hb hr hml hown hts hlocks hZ hA hK σ _ _ _ hf hP hD hS (lv_sub hl [0] rfl)
  ·
    replace hf := (if_pos c19).symm.trans hf
    refine lv_iload_n hx hb dX12_readName_174 rfl (lv_at hl 1 rfl) ?_
    refine lv_iconst (v := 2) hx hb dX12_readName_175 (by decide) ?_
    refine lv_icmp_ne (tgt := 189) hx hb dX12_readName_176 (by decide) (fun c23 => ?_) (fun c23 => ?_)
    ·
      replace hf := (if_neg c23).symm.trans hf
      exact j_X12_readName_189 l dC dI Q N R hx hb hr hml hown hts hlocks hZ hA hK σ x1 x3 _ _ _ hf hP hD hS (lv_sub hl [0, 1, 3] rfl)
    ·
      replace hf := (if_pos c23).symm.trans hf
      refine lv_iload_n hx hb dX12_readName_179 rfl (lv_at hl 3 rfl) ?_
      refine lv_iconst (v := 0) hx hb dX12_readName_180 (by decide) ?_
      refine lv_bipush (v := 9) hx hb dX12_readName_181 (by decide) ?_
      obtain ⟨p34, hcp34, hf⟩ := hf_bind hf
      have hFc := r_free hD hS hA
      refine va_calli (va_runS (As := [.int x3, .int 0, .int 9]) (rest := []) ⟨hx, hb, hml, hown, hts⟩ (c_X12_in l dC dI _ Q N σ x3 0 9 p34 hcp34) (va_cwS 3 hts hX12_readName_X12_in_s279 rfl rfl rfl (by decide +kernel) ⟨Nat.le_of_ble_eq_true rfl, Nat.le_of_ble_eq_true rfl⟩) ⟨zPre.blind, zPre.go hZ hP hK hD⟩ rfl rfl hl.1 rfl (lv_room (Nat.le_of_ble_eq_true rfl)) dX12_readName_183 ⟨Nat.le_of_ble_eq_true rfl, Nat.le_of_ble_eq_true rfl⟩) hS (fun q _ h => hFc q h) hFc (fun r35 u9 t9 H1 locs ht hvm hw hB hz1 hk1 hS => ?_)
      obtain ⟨hP, hK1, hD1⟩ := hB
      rw [ht] at hP
      have hD := hD1.weaken (fun _ _ _ h => hFc _ h)
      generalize H1 = H at hP hS ⊢
      obtain rfl : r35 = p34.1 := hw
      refine lv_if_ne (tgt := 220) hx hb dX12_readName_186 (by decide) (fun c36 => ?_) (fun c36 => ?_)
      ·
        replace hf := (if_neg c36).symm.trans hf
        exact j_X12_readName_220 l dC dI Q N R hx hb hr hml hown hts hlocks hZ hA hK p34.2 x1 x3 _ _ _ hf hP hD hS (lv_sub hl [0, 1, 3] rfl)
      ·
        replace hf := (if_pos c36).symm.trans hf
        exact j_X12_readName_189 l dC dI Q N R hx hb hr hml hown hts hlocks hZ hA hK p34.2 x1 x3 _ _ _ hf hP hD hS (lv_sub hl [0, 1, 3] rfl)
set_option maxHeartbeats 4000000 in
set_option maxRecDepth 100000 in
theorem j_X12_readName_160 {p : Program} {e : Env} {s : State} {m : MethodId} {args : Array Value} {below : List Frame} {meth : Method} {c : Code} {A : Nat → Prop} (l : Launch) (dC : Nat → ClassId) (dI : Nat → Nat → Nat) (Q : RQ) (N : Nat) (R : RS) (hx : p.tables.exec = Jvm.exec) (hb : c.code = cX12_readName) (hr : meth.sig.returnType = none) (hml : c.maxLocals = 5) (hown : s.vm.findClass RX12 = some m.cls) (hts : ∀ w ∈ wzX12_readName, w.before args s = true) (hlocks : meth.locks = false) (hZ : zAMB s) (hA : ∀ q : Nat, s.heap.size ≤ q → A q) (hK : va_K (dC, dI) vwCl (rT Q) s) : ∀ (σ : RS) (x3 : Int32) (H : Heap) (locs : List Loc) (ls : Array Slot), f_X12_readName_160 N σ x3 = some R → va_P (dC, dI) vwCl (rW Q σ) H → va_D A (rW Q σ) → va_S A s.heap H locs → lv_has ls 5 [(0, .ref Q.h0), (3, .int x3)] → W p l e ({ frames := 2, cells := 0, slots := 0, locals := 120 }) s m args below meth c H locs 0 0 (MQ below (va_Qv (fun (_ : Unit) => True) (fun (_ : Unit) (t : State) => zPost dC dI A (rW Q R) (rT Q) t) A) args s 0 0 A) (F0 m 160 ls []) := by
  intro σ x3 H locs ls hf hP hD hS hl
  unfold f_X12_readName_160 at hf
  refine lv_aload_n hx hb dX12_readName_160 rfl (lv_at hl 0 rfl) ?_
  refine lv_iload_n hx hb dX12_readName_161 rfl (lv_at hl 1 rfl) ?_
  refine rP_14 hx hb hts i_X12_readName_X12 hown hK hP hD hS (hts (.fieldLink RX12 314 "StatementRules2Model" "number" "I") k_X12_readName_fieldLink_RX12_314_SRModel_number_I) dX12_readName_162 (fun H locs hP hD hS => ?_)
  refine lv_goto (tgt := 305) hx hb dX12_readName_165 (by decide) ?_
  obtain rfl := Option.some.inj hf
  exact W.vret hx hb hr (fun t ht hW => ⟨⟨(), rfl, trivial, by rw [ht]; exact hP, va_K.moved hW.alike hK, hD⟩, hS.F ht⟩) hS.2.2 dX12_readName_305
set_option maxHeartbeats 4000000 in
set_option maxRecDepth 100000 in
theorem j_X12_readName_135 {p : Program} {e : Env} {s : State} {m : MethodId} {args : Array Value} {below : List Frame} {meth : Method} {c : Code} {A : Nat → Prop} (l : Launch) (dC : Nat → ClassId) (dI : Nat → Nat → Nat) (Q : RQ) (N : Nat) (R : RS) (hx : p.tables.exec = Jvm.exec) (hb : c.code = cX12_readName) (hr : meth.sig.returnType = none) (hml : c.maxLocals = 5) (hown : s.vm.findClass RX12 = some m.cls) (hts : ∀ w ∈ wzX12_readName, w.before args s = true) (hlocks : meth.locks = false) (hZ : zAMB s) (hA : ∀ q : Nat, s.heap.size ≤ q → A q) (hK : va_K (dC, dI) vwCl (rT Q) s) : ∀ (σ : RS) (x1 : Int32) (x2 : Int32) (x3 : Int32) (H : Heap) (locs : List Loc) (ls : Array Slot), f_X12_readName_135 N σ x1 x2 x3 = some R → va_P (dC, dI) vwCl (rW Q σ) H → va_D A (rW Q σ) → va_S A s.heap H locs → lv_has ls 5 [(0, .ref Q.h0), (1, .int x1), (2, .int x2), (3, .int x3)] → W p l e ({ frames := 2, cells := 0, slots := 0, locals := 120 }) s m args below meth c H locs 0 0 (MQ below (va_Qv (fun (_ : Unit) => True) (fun (_ : Unit) (t : State) => zPost dC dI A (rW Q R) (rT Q) t) A) args s 0 0 A) (F0 m 135 ls []) := by
  intro σ x1 x2 x3 H locs ls hf hP hD hS hl
  unfold f_X12_readName_135 at hf
  refine lv_iload_n hx hb dX12_readName_135 rfl (lv_at hl 3 rfl) ?_
  refine lv_iconst (v := 0) hx hb dX12_readName_136 (by decide) ?_
  refine lv_bipush (v := 7) hx hb dX12_readName_137 (by decide) ?_
  obtain ⟨p38, hcp38, hf⟩ := hf_bind hf
  have hFc := r_free hD hS hA
  refine va_calli (va_runS (As := [.int x3, .int 0, .int 7]) (rest := []) ⟨hx, hb, hml, hown, hts⟩ (c_X12_in l dC dI _ Q N σ x3 0 7 p38 hcp38) (va_cwS 3 hts hX12_readName_X12_in_s279 rfl rfl rfl (by decide +kernel) ⟨Nat.le_of_ble_eq_true rfl, Nat.le_of_ble_eq_true rfl⟩) ⟨zPre.blind, zPre.go hZ hP hK hD⟩ rfl rfl hl.1 rfl (lv_room (Nat.le_of_ble_eq_true rfl)) dX12_readName_139 ⟨Nat.le_of_ble_eq_true rfl, Nat.le_of_ble_eq_true rfl⟩) hS (fun q _ h => hFc q h) hFc (fun r39 u9 t9 H1 locs ht hvm hw hB hz1 hk1 hS => ?_)
  obtain ⟨hP, hK1, hD1⟩ := hB
  rw [ht] at hP
  have hD := hD1.weaken (fun _ _ _ h => hFc _ h)
  generalize H1 = H at hP hS ⊢
  obtain rfl : r39 = p38.1 := hw
  refine lv_if_eq (tgt := 168) hx hb dX12_readName_142 (by decide) (fun c40 => ?_) (fun c40 => ?_)
  ·
    replace hf := (if_pos c40).symm.trans hf
    exact j_X12_readName_168 l dC dI Q N R hx hb hr hml hown hts hlocks hZ hA hK p38.2 x1 x2 x3 _ _ _ hf hP hD hS (lv_sub hl [0, 1, 2, 3] rfl)
  ·
    replace hf := (if_neg c40).symm.trans hf
    refine lv_aload_n hx hb dX12_readName_145 rfl (lv_at hl 0 rfl) ?_
    refine lv_iload_n hx hb dX12_readName_146 rfl (lv_at hl 2 rfl) ?_
    refine lv_bipush (v := 109) hx hb dX12_readName_147 (by decide) ?_
    refine lv_icmp_ne (tgt := 156) hx hb dX12_readName_149 (by decide) (fun c41 => ?_) (fun c41 => ?_)
    ·
      replace hf := (if_neg c41).symm.trans hf
      refine lv_iconst (v := 4) hx hb dX12_readName_156 (by decide) ?_
      refine rP_10 hx hb hts i_X12_readName_X12 hown hK hP hD hS (hts (.fieldLink RX12 307 "StatementRules2Model" "tok" "I") k_X12_readName_fieldLink_RX12_307_SRModel_tok_I) dX12_readName_157 (fun H locs hP hD hS => ?_)
      exact j_X12_readName_160 l dC dI Q N R hx hb hr hml hown hts hlocks hZ hA hK (RS.setI p38.2 10 4) x3 _ _ _ hf hP hD hS (lv_sub hl [0, 3] rfl)
    ·
      replace hf := (if_pos c41).symm.trans hf
      refine lv_iconst (v := 3) hx hb dX12_readName_152 (by decide) ?_
      refine lv_goto (tgt := 157) hx hb dX12_readName_153 (by decide) ?_
      refine rP_10 hx hb hts i_X12_readName_X12 hown hK hP hD hS (hts (.fieldLink RX12 307 "StatementRules2Model" "tok" "I") k_X12_readName_fieldLink_RX12_307_SRModel_tok_I) dX12_readName_157 (fun H locs hP hD hS => ?_)
      exact j_X12_readName_160 l dC dI Q N R hx hb hr hml hown hts hlocks hZ hA hK (RS.setI p38.2 10 3) x3 _ _ _ hf hP hD hS (lv_sub hl [0, 3] rfl)
set_option maxHeartbeats 4000000 in
set_option maxRecDepth 100000 in
theorem j_X12_readName_5 {p : Program} {e : Env} {s : State} {m : MethodId} {args : Array Value} {below : List Frame} {meth : Method} {c : Code} {A : Nat → Prop} (l : Launch) (dC : Nat → ClassId) (dI : Nat → Nat → Nat) (Q : RQ) (N : Nat) (R : RS) (hx : p.tables.exec = Jvm.exec) (hb : c.code = cX12_readName) (hr : meth.sig.returnType = none) (hml : c.maxLocals = 5) (hown : s.vm.findClass RX12 = some m.cls) (hts : ∀ w ∈ wzX12_readName, w.before args s = true) (hlocks : meth.locks = false) (hZ : zAMB s) (hA : ∀ q : Nat, s.heap.size ≤ q → A q) (hK : va_K (dC, dI) vwCl (rT Q) s) : ∀ (n9 : Nat), ∀ (σ : RS) (H : Heap) (locs : List Loc) (ls : Array Slot), f_X12_readName_5 N n9 σ = some R → va_P (dC, dI) vwCl (rW Q σ) H → va_D A (rW Q σ) → va_S A s.heap H locs → lv_has ls 5 [(0, .ref Q.h0)] → W p l e ({ frames := 2, cells := 0, slots := 0, locals := 120 }) s m args below meth c H locs 0 0 (MQ below (va_Qv (fun (_ : Unit) => True) (fun (_ : Unit) (t : State) => zPost dC dI A (rW Q R) (rT Q) t) A) args s 0 0 A) (F0 m 5 ls []) := by
  intro n9
  induction n9 with
  | zero => intro σ  H locs ls hf; exact absurd hf (by intro h9; cases h9)
  | succ n9 ih =>
    intro σ  H locs ls hf hP hD hS hl
    replace hf : b_X12_readName_5 N (f_X12_readName_5 N n9) σ  = some R := hf
    unfold b_X12_readName_5 at hf
    refine lv_aload_n hx hb dX12_readName_5 rfl (lv_at hl 0 rfl) ?_
    refine lv_aload_n hx hb dX12_readName_6 rfl (lv_at hl 0 rfl) ?_
    refine rG_12 (v := (σ.i 12)) hx hb hts i_X12_readName_X12 hown hK hP (hts (.fieldLink RX12 297 "StatementRules2Model" "to" "I") k_X12_readName_fieldLink_RX12_297_SRModel_to_I) dX12_readName_7 rfl ?_
    obtain ⟨p1, hcp1, hf⟩ := hf_bind hf
    have hFc := r_free hD hS hA
    refine va_calli (va_runV (As := [.int (σ.i 12)]) (rest := []) ⟨hx, hb, hml, hown, hts⟩ (c_X12_at l dC dI _ Q N σ (σ.i 12) p1 hcp1) (cwV 1 hts hX12_readName_X12_at_v300 rfl rfl rfl (by decide +kernel) ⟨Nat.le_of_ble_eq_true rfl, Nat.le_of_ble_eq_true rfl⟩) ⟨zPre.blind, va_recv hK hP (ci := 11) (q0 := 0) rfl rfl, zPre.go hZ hP hK hD⟩ rfl rfl hl.1 rfl (lv_room (Nat.le_of_ble_eq_true rfl)) dX12_readName_10 ⟨Nat.le_of_ble_eq_true rfl, Nat.le_of_ble_eq_true rfl⟩) hS (fun q _ h => hFc q h) hFc (fun r2 u9 t9 H1 locs ht hvm hw hB hz1 hk1 hS => ?_)
    obtain ⟨hP, hK1, hD1⟩ := hB
    rw [ht] at hP
    have hD := hD1.weaken (fun _ _ _ h => hFc _ h)
    generalize H1 = H at hP hS ⊢
    obtain rfl : r2 = p1.1 := hw
    obtain ⟨p3, hcp3, hf⟩ := hf_bind hf
    have hFc := r_free hD hS hA
    refine va_calli (va_runS (As := [.int p1.1]) (rest := []) ⟨hx, hb, hml, hown, hts⟩ (c_X12_isLetter l dC dI _ Q N p1.2 p1.1 p3 hcp3) (va_cwS 1 hts hX12_readName_X12_isLetter_s317 rfl rfl rfl (by decide +kernel) ⟨Nat.le_of_ble_eq_true rfl, Nat.le_of_ble_eq_true rfl⟩) ⟨zPre.blind, zPre.go hZ hP hK hD⟩ rfl rfl hl.1 rfl (lv_room (Nat.le_of_ble_eq_true rfl)) dX12_readName_13 ⟨Nat.le_of_ble_eq_true rfl, Nat.le_of_ble_eq_true rfl⟩) hS (fun q _ h => hFc q h) hFc (fun r4 u9 t9 H1 locs ht hvm hw hB hz1 hk1 hS => ?_)
    obtain ⟨hP, hK1, hD1⟩ := hB
    rw [ht] at hP
    have hD := hD1.weaken (fun _ _ _ h => hFc _ h)
    generalize H1 = H at hP hS ⊢
    obtain rfl : r4 = p3.1 := hw
    refine lv_if_ne (tgt := 33) hx hb dX12_readName_16 (by decide) (fun c5 => ?_) (fun c5 => ?_)
    ·
      replace hf := (if_neg c5).symm.trans hf
      refine lv_aload_n hx hb dX12_readName_33 rfl (lv_at hl 0 rfl) ?_
      refine lv_aload_n hx hb dX12_readName_34 rfl (lv_at hl 0 rfl) ?_
      refine rG_13 (v := p3.2.l) hx hb hts i_X12_readName_X12 hown hK hP (hts (.fieldLink RX12 327 "StatementRules2Model" "name" "J") k_X12_readName_fieldLink_RX12_327_SRModel_name_J) dX12_readName_35 rfl ?_
      refine lv_bipush (v := 8) hx hb dX12_readName_38 (by decide) ?_
      refine lv_lshl (v := (p3.2.l <<< ((8 : Int32).toInt64 &&& 63))) hx hb dX12_readName_40 rfl ?_
      refine lv_aload_n hx hb dX12_readName_41 rfl (lv_at hl 0 rfl) ?_
      refine lv_aload_n hx hb dX12_readName_42 rfl (lv_at hl 0 rfl) ?_
      refine rG_12 (v := (p3.2.i 12)) hx hb hts i_X12_readName_X12 hown hK hP (hts (.fieldLink RX12 297 "StatementRules2Model" "to" "I") k_X12_readName_fieldLink_RX12_297_SRModel_to_I) dX12_readName_43 rfl ?_
      obtain ⟨p6, hcp6, hf⟩ := hf_bind hf
      have hFc := r_free hD hS hA
      refine va_calli (va_runV (As := [.int (p3.2.i 12)]) (rest := [.long (p3.2.l <<< ((8 : Int32).toInt64 &&& 63)), .ref Q.h0]) ⟨hx, hb, hml, hown, hts⟩ (c_X12_at l dC dI _ Q N p3.2 (p3.2.i 12) p6 hcp6) (cwV 1 hts hX12_readName_X12_at_v300 rfl rfl rfl (by decide +kernel) ⟨Nat.le_of_ble_eq_true rfl, Nat.le_of_ble_eq_true rfl⟩) ⟨zPre.blind, va_recv hK hP (ci := 11) (q0 := 0) rfl rfl, zPre.go hZ hP hK hD⟩ rfl rfl hl.1 rfl (lv_room (Nat.le_of_ble_eq_true rfl)) dX12_readName_46 ⟨Nat.le_of_ble_eq_true rfl, Nat.le_of_ble_eq_true rfl⟩) hS (fun q _ h => hFc q h) hFc (fun r7 u9 t9 H1 locs ht hvm hw hB hz1 hk1 hS => ?_)
      obtain ⟨hP, hK1, hD1⟩ := hB
      rw [ht] at hP
      have hD := hD1.weaken (fun _ _ _ h => hFc _ h)
      generalize H1 = H at hP hS ⊢
      obtain rfl : r7 = p6.1 := hw
      refine lv_i2l (v := (p6.1 : Int32).toInt64) hx hb dX12_readName_49 rfl ?_
      refine lv_lor hx hb dX12_readName_50 ?_
      refine rP_13 hx hb hts i_X12_readName_X12 hown hK hP hD hS (hts (.fieldLink RX12 327 "StatementRules2Model" "name" "J") k_X12_readName_fieldLink_RX12_327_SRModel_name_J) dX12_readName_51 (fun H locs hP hD hS => ?_)
      refine lv_aload_n hx hb dX12_readName_54 rfl (lv_at hl 0 rfl) ?_
      refine lv_dup hx hb dX12_readName_55 rfl ?_
      refine rG_12 (v := (p6.2.i 12)) hx hb hts i_X12_readName_X12 hown hK hP (hts (.fieldLink RX12 297 "StatementRules2Model" "to" "I") k_X12_readName_fieldLink_RX12_297_SRModel_to_I) dX12_readName_56 rfl ?_
      refine lv_iconst (v := 1) hx hb dX12_readName_59 (by decide) ?_
      refine lv_iadd hx hb dX12_readName_60 ?_
      refine rP_12 hx hb hts i_X12_readName_X12 hown hK hP hD hS (hts (.fieldLink RX12 297 "StatementRules2Model" "to" "I") k_X12_readName_fieldLink_RX12_297_SRModel_to_I) dX12_readName_61 (fun H locs hP hD hS => ?_)
      refine lv_goto (tgt := 5) hx hb dX12_readName_64 (by decide) ?_
      exact ih (RS.setI (RS.setL p6.2 ((p3.2.l <<< ((8 : Int32).toInt64 &&& 63)) ||| (p6.1 : Int32).toInt64)) 12 ((p6.2.i 12) + 1)) _ _ _ hf hP hD hS (lv_sub hl [0] rfl)
    ·
      replace hf := (if_pos c5).symm.trans hf
      refine lv_aload_n hx hb dX12_readName_19 rfl (lv_at hl 0 rfl) ?_
      refine lv_aload_n hx hb dX12_readName_20 rfl (lv_at hl 0 rfl) ?_
      refine rG_12 (v := (p3.2.i 12)) hx hb hts i_X12_readName_X12 hown hK hP (hts (.fieldLink RX12 297 "StatementRules2Model" "to" "I") k_X12_readName_fieldLink_RX12_297_SRModel_to_I) dX12_readName_21 rfl ?_
      obtain ⟨p8, hcp8, hf⟩ := hf_bind hf
      have hFc := r_free hD hS hA
      refine va_calli (va_runV (As := [.int (p3.2.i 12)]) (rest := []) ⟨hx, hb, hml, hown, hts⟩ (c_X12_at l dC dI _ Q N p3.2 (p3.2.i 12) p8 hcp8) (cwV 1 hts hX12_readName_X12_at_v300 rfl rfl rfl (by decide +kernel) ⟨Nat.le_of_ble_eq_true rfl, Nat.le_of_ble_eq_true rfl⟩) ⟨zPre.blind, va_recv hK hP (ci := 11) (q0 := 0) rfl rfl, zPre.go hZ hP hK hD⟩ rfl rfl hl.1 rfl (lv_room (Nat.le_of_ble_eq_true rfl)) dX12_readName_24 ⟨Nat.le_of_ble_eq_true rfl, Nat.le_of_ble_eq_true rfl⟩) hS (fun q _ h => hFc q h) hFc (fun r9 u9 t9 H1 locs ht hvm hw hB hz1 hk1 hS => ?_)
      obtain ⟨hP, hK1, hD1⟩ := hB
      rw [ht] at hP
      have hD := hD1.weaken (fun _ _ _ h => hFc _ h)
      generalize H1 = H at hP hS ⊢
      obtain rfl : r9 = p8.1 := hw
      obtain ⟨p10, hcp10, hf⟩ := hf_bind hf
      have hFc := r_free hD hS hA
      refine va_calli (va_runS (As := [.int p8.1]) (rest := []) ⟨hx, hb, hml, hown, hts⟩ (c_X12_isDigit l dC dI _ Q N p8.2 p8.1 p10 hcp10) (va_cwS 1 hts hX12_readName_X12_isDigit_s310 rfl rfl rfl (by decide +kernel) ⟨Nat.le_of_ble_eq_true rfl, Nat.le_of_ble_eq_true rfl⟩) ⟨zPre.blind, zPre.go hZ hP hK hD⟩ rfl rfl hl.1 rfl (lv_room (Nat.le_of_ble_eq_true rfl)) dX12_readName_27 ⟨Nat.le_of_ble_eq_true rfl, Nat.le_of_ble_eq_true rfl⟩) hS (fun q _ h => hFc q h) hFc (fun r11 u9 t9 H1 locs ht hvm hw hB hz1 hk1 hS => ?_)
      obtain ⟨hP, hK1, hD1⟩ := hB
      rw [ht] at hP
      have hD := hD1.weaken (fun _ _ _ h => hFc _ h)
      generalize H1 = H at hP hS ⊢
      obtain rfl : r11 = p10.1 := hw
      refine lv_if_eq (tgt := 67) hx hb dX12_readName_30 (by decide) (fun c12 => ?_) (fun c12 => ?_)
      ·
        replace hf := (if_pos c12).symm.trans hf
        refine lv_aload_n hx hb dX12_readName_67 rfl (lv_at hl 0 rfl) ?_
        refine rG_12 (v := (p10.2.i 12)) hx hb hts i_X12_readName_X12 hown hK hP (hts (.fieldLink RX12 297 "StatementRules2Model" "to" "I") k_X12_readName_fieldLink_RX12_297_SRModel_to_I) dX12_readName_68 rfl ?_
        refine lv_aload_n hx hb dX12_readName_71 rfl (lv_at hl 0 rfl) ?_
        refine rG_11 (v := (p10.2.i 11)) hx hb hts i_X12_readName_X12 hown hK hP (hts (.fieldLink RX12 304 "StatementRules2Model" "from" "I") k_X12_readName_fieldLink_RX12_304_SRModel_from_I) dX12_readName_72 rfl ?_
        refine lv_isub hx hb dX12_readName_75 ?_
        refine lv_istore_n (lv' := [(1, .int ((p10.2.i 12) - (p10.2.i 11))), (0, .ref Q.h0)]) hx hb dX12_readName_76 rfl hl (by decide) rfl (fun ls hl => ?_)
        refine lv_iload_n hx hb dX12_readName_77 rfl (lv_at hl 0 rfl) ?_
        refine lv_bipush (v := 8) hx hb dX12_readName_78 (by decide) ?_
        refine lv_icmp_le (tgt := 90) hx hb dX12_readName_80 (by decide) (fun c13 => ?_) (fun c13 => ?_)
        ·
          replace hf := (if_pos c13).symm.trans hf
          refine lv_aload_n hx hb dX12_readName_90 rfl (lv_at hl 1 rfl) ?_
          refine lv_aload_n hx hb dX12_readName_91 rfl (lv_at hl 1 rfl) ?_
          refine rG_11 (v := (p10.2.i 11)) hx hb hts i_X12_readName_X12 hown hK hP (hts (.fieldLink RX12 304 "StatementRules2Model" "from" "I") k_X12_readName_fieldLink_RX12_304_SRModel_from_I) dX12_readName_92 rfl ?_
          obtain ⟨p14, hcp14, hf⟩ := hf_bind hf
          have hFc := r_free hD hS hA
          refine va_calli (va_runV (As := [.int (p10.2.i 11)]) (rest := []) ⟨hx, hb, hml, hown, hts⟩ (c_X12_at l dC dI _ Q N p10.2 (p10.2.i 11) p14 hcp14) (cwV 1 hts hX12_readName_X12_at_v300 rfl rfl rfl (by decide +kernel) ⟨Nat.le_of_ble_eq_true rfl, Nat.le_of_ble_eq_true rfl⟩) ⟨zPre.blind, va_recv hK hP (ci := 11) (q0 := 0) rfl rfl, zPre.go hZ hP hK hD⟩ rfl rfl hl.1 rfl (lv_room (Nat.le_of_ble_eq_true rfl)) dX12_readName_95 ⟨Nat.le_of_ble_eq_true rfl, Nat.le_of_ble_eq_true rfl⟩) hS (fun q _ h => hFc q h) hFc (fun r15 u9 t9 H1 locs ht hvm hw hB hz1 hk1 hS => ?_)
          obtain ⟨hP, hK1, hD1⟩ := hB
          rw [ht] at hP
          have hD := hD1.weaken (fun _ _ _ h => hFc _ h)
          generalize H1 = H at hP hS ⊢
          obtain rfl : r15 = p14.1 := hw
          refine lv_istore_n (lv' := [(2, .int p14.1), (1, .int ((p10.2.i 12) - (p10.2.i 11))), (0, .ref Q.h0)]) hx hb dX12_readName_98 rfl hl (by decide) rfl (fun ls hl => ?_)
          refine lv_aload_n hx hb dX12_readName_99 rfl (lv_at hl 2 rfl) ?_
          refine lv_aload_n hx hb dX12_readName_100 rfl (lv_at hl 2 rfl) ?_
          refine rG_11 (v := (p14.2.i 11)) hx hb hts i_X12_readName_X12 hown hK hP (hts (.fieldLink RX12 304 "StatementRules2Model" "from" "I") k_X12_readName_fieldLink_RX12_304_SRModel_from_I) dX12_readName_101 rfl ?_
          refine lv_iconst (v := 1) hx hb dX12_readName_104 (by decide) ?_
          refine lv_iadd hx hb dX12_readName_105 ?_
          obtain ⟨p16, hcp16, hf⟩ := hf_bind hf
          have hFc := r_free hD hS hA
          refine va_calli (va_runV (As := [.int ((p14.2.i 11) + 1)]) (rest := []) ⟨hx, hb, hml, hown, hts⟩ (c_X12_at l dC dI _ Q N p14.2 ((p14.2.i 11) + 1) p16 hcp16) (cwV 1 hts hX12_readName_X12_at_v300 rfl rfl rfl (by decide +kernel) ⟨Nat.le_of_ble_eq_true rfl, Nat.le_of_ble_eq_true rfl⟩) ⟨zPre.blind, va_recv hK hP (ci := 11) (q0 := 0) rfl rfl, zPre.go hZ hP hK hD⟩ rfl rfl hl.1 rfl (lv_room (Nat.le_of_ble_eq_true rfl)) dX12_readName_106 ⟨Nat.le_of_ble_eq_true rfl, Nat.le_of_ble_eq_true rfl⟩) hS (fun q _ h => hFc q h) hFc (fun r17 u9 t9 H1 locs ht hvm hw hB hz1 hk1 hS => ?_)
          obtain ⟨hP, hK1, hD1⟩ := hB
          rw [ht] at hP
          have hD := hD1.weaken (fun _ _ _ h => hFc _ h)
          generalize H1 = H at hP hS ⊢
          obtain rfl : r17 = p16.1 := hw
          refine lv_bipush (v := 48) hx hb dX12_readName_109 (by decide) ?_
          refine lv_isub hx hb dX12_readName_111 ?_
          refine lv_istore_n (lv' := [(3, .int (p16.1 - 48)), (2, .int p14.1), (1, .int ((p10.2.i 12) - (p10.2.i 11))), (0, .ref Q.h0)]) hx hb dX12_readName_112 rfl hl (by decide) rfl (fun ls hl => ?_)
          refine lv_aload_n hx hb dX12_readName_113 rfl (lv_at hl 3 rfl) ?_
          refine lv_iconst (v := 2) hx hb dX12_readName_114 (by decide) ?_
          refine rP_10 hx hb hts i_X12_readName_X12 hown hK hP hD hS (hts (.fieldLink RX12 307 "StatementRules2Model" "tok" "I") k_X12_readName_fieldLink_RX12_307_SRModel_tok_I) dX12_readName_115 (fun H locs hP hD hS => ?_)
          refine lv_iload_n hx hb dX12_readName_118 rfl (lv_at hl 2 rfl) ?_
          refine lv_iconst (v := 2) hx hb dX12_readName_119 (by decide) ?_
          refine lv_icmp_ne (tgt := 168) hx hb dX12_readName_120 (by decide) (fun c18 => ?_) (fun c18 => ?_)
          ·
            replace hf := (if_neg c18).symm.trans hf
            exact j_X12_readName_168 l dC dI Q N R hx hb hr hml hown hts hlocks hZ hA hK (RS.setI p16.2 10 2) ((p10.2.i 12) - (p10.2.i 11)) p14.1 (p16.1 - 48) _ _ _ hf hP hD hS (lv_sub hl [3, 2, 1, 0] rfl)
          ·
            replace hf := (if_pos c18).symm.trans hf
            refine lv_iload_n hx hb dX12_readName_123 rfl (lv_at hl 1 rfl) ?_
            refine lv_bipush (v := 109) hx hb dX12_readName_124 (by decide) ?_
            refine lv_icmp_eq (tgt := 135) hx hb dX12_readName_126 (by decide) (fun c37 => ?_) (fun c37 => ?_)
            ·
              replace hf := (if_pos c37).symm.trans hf
              exact j_X12_readName_135 l dC dI Q N R hx hb hr hml hown hts hlocks hZ hA hK (RS.setI p16.2 10 2) ((p10.2.i 12) - (p10.2.i 11)) p14.1 (p16.1 - 48) _ _ _ hf hP hD hS (lv_sub hl [3, 2, 1, 0] rfl)
            ·
              replace hf := (if_neg c37).symm.trans hf
              refine lv_iload_n hx hb dX12_readName_129 rfl (lv_at hl 1 rfl) ?_
              refine lv_bipush (v := 114) hx hb dX12_readName_130 (by decide) ?_
              refine lv_icmp_ne (tgt := 168) hx hb dX12_readName_132 (by decide) (fun c42 => ?_) (fun c42 => ?_)
              ·
                replace hf := (if_neg c42).symm.trans hf
                exact j_X12_readName_168 l dC dI Q N R hx hb hr hml hown hts hlocks hZ hA hK (RS.setI p16.2 10 2) ((p10.2.i 12) - (p10.2.i 11)) p14.1 (p16.1 - 48) _ _ _ hf hP hD hS (lv_sub hl [3, 2, 1, 0] rfl)
              ·
                replace hf := (if_pos c42).symm.trans hf
                exact j_X12_readName_135 l dC dI Q N R hx hb hr hml hown hts hlocks hZ hA hK (RS.setI p16.2 10 2) ((p10.2.i 12) - (p10.2.i 11)) p14.1 (p16.1 - 48) _ _ _ hf hP hD hS (lv_sub hl [3, 2, 1, 0] rfl)
        ·
          replace hf := (if_neg c13).symm.trans hf
          refine lv_aload_n hx hb dX12_readName_83 rfl (lv_at hl 1 rfl) ?_
          refine lv_bipush (v := 6) hx hb dX12_readName_84 (by decide) ?_
          refine rP_10 hx hb hts i_X12_readName_X12 hown hK hP hD hS (hts (.fieldLink RX12 307 "StatementRules2Model" "tok" "I") k_X12_readName_fieldLink_RX12_307_SRModel_tok_I) dX12_readName_86 (fun H locs hP hD hS => ?_)
          obtain rfl := Option.some.inj hf
          exact W.vret hx hb hr (fun t ht hW => ⟨⟨(), rfl, trivial, by rw [ht]; exact hP, va_K.moved hW.alike hK, hD⟩, hS.F ht⟩) hS.2.2 dX12_readName_89
      ·
        replace hf := (if_neg c12).symm.trans hf
        refine lv_aload_n hx hb dX12_readName_33 rfl (lv_at hl 0 rfl) ?_
        refine lv_aload_n hx hb dX12_readName_34 rfl (lv_at hl 0 rfl) ?_
        refine rG_13 (v := p10.2.l) hx hb hts i_X12_readName_X12 hown hK hP (hts (.fieldLink RX12 327 "StatementRules2Model" "name" "J") k_X12_readName_fieldLink_RX12_327_SRModel_name_J) dX12_readName_35 rfl ?_
        refine lv_bipush (v := 8) hx hb dX12_readName_38 (by decide) ?_
        refine lv_lshl (v := (p10.2.l <<< ((8 : Int32).toInt64 &&& 63))) hx hb dX12_readName_40 rfl ?_
        refine lv_aload_n hx hb dX12_readName_41 rfl (lv_at hl 0 rfl) ?_
        refine lv_aload_n hx hb dX12_readName_42 rfl (lv_at hl 0 rfl) ?_
        refine rG_12 (v := (p10.2.i 12)) hx hb hts i_X12_readName_X12 hown hK hP (hts (.fieldLink RX12 297 "StatementRules2Model" "to" "I") k_X12_readName_fieldLink_RX12_297_SRModel_to_I) dX12_readName_43 rfl ?_
        obtain ⟨p43, hcp43, hf⟩ := hf_bind hf
        have hFc := r_free hD hS hA
        refine va_calli (va_runV (As := [.int (p10.2.i 12)]) (rest := [.long (p10.2.l <<< ((8 : Int32).toInt64 &&& 63)), .ref Q.h0]) ⟨hx, hb, hml, hown, hts⟩ (c_X12_at l dC dI _ Q N p10.2 (p10.2.i 12) p43 hcp43) (cwV 1 hts hX12_readName_X12_at_v300 rfl rfl rfl (by decide +kernel) ⟨Nat.le_of_ble_eq_true rfl, Nat.le_of_ble_eq_true rfl⟩) ⟨zPre.blind, va_recv hK hP (ci := 11) (q0 := 0) rfl rfl, zPre.go hZ hP hK hD⟩ rfl rfl hl.1 rfl (lv_room (Nat.le_of_ble_eq_true rfl)) dX12_readName_46 ⟨Nat.le_of_ble_eq_true rfl, Nat.le_of_ble_eq_true rfl⟩) hS (fun q _ h => hFc q h) hFc (fun r44 u9 t9 H1 locs ht hvm hw hB hz1 hk1 hS => ?_)
        obtain ⟨hP, hK1, hD1⟩ := hB
        rw [ht] at hP
        have hD := hD1.weaken (fun _ _ _ h => hFc _ h)
        generalize H1 = H at hP hS ⊢
        obtain rfl : r44 = p43.1 := hw
        refine lv_i2l (v := (p43.1 : Int32).toInt64) hx hb dX12_readName_49 rfl ?_
        refine lv_lor hx hb dX12_readName_50 ?_
        refine rP_13 hx hb hts i_X12_readName_X12 hown hK hP hD hS (hts (.fieldLink RX12 327 "StatementRules2Model" "name" "J") k_X12_readName_fieldLink_RX12_327_SRModel_name_J) dX12_readName_51 (fun H locs hP hD hS => ?_)
        refine lv_aload_n hx hb dX12_readName_54 rfl (lv_at hl 0 rfl) ?_
        refine lv_dup hx hb dX12_readName_55 rfl ?_
        refine rG_12 (v := (p43.2.i 12)) hx hb hts i_X12_readName_X12 hown hK hP (hts (.fieldLink RX12 297 "StatementRules2Model" "to" "I") k_X12_readName_fieldLink_RX12_297_SRModel_to_I) dX12_readName_56 rfl ?_
        refine lv_iconst (v := 1) hx hb dX12_readName_59 (by decide) ?_
        refine lv_iadd hx hb dX12_readName_60 ?_
        refine rP_12 hx hb hts i_X12_readName_X12 hown hK hP hD hS (hts (.fieldLink RX12 297 "StatementRules2Model" "to" "I") k_X12_readName_fieldLink_RX12_297_SRModel_to_I) dX12_readName_61 (fun H locs hP hD hS => ?_)
        refine lv_goto (tgt := 5) hx hb dX12_readName_64 (by decide) ?_
        exact ih (RS.setI (RS.setL p43.2 ((p10.2.l <<< ((8 : Int32).toInt64 &&& 63)) ||| (p43.1 : Int32).toInt64)) 12 ((p43.2.i 12) + 1)) _ _ _ hf hP hD hS (lv_sub hl [0] rfl)
set_option maxHeartbeats 4000000 in
set_option maxRecDepth 100000 in
theorem c_X12_readName (l : Launch) (dC : Nat → ClassId) (dI : Nat → Nat → Nat) (sz : Nat) (Q : RQ) (N : Nat) (σ : RS) (R : RS) (hf : f_X12_readName N σ = some R) : Met l yX12_readName wzX12_readName ({ frames := 2, cells := 0, slots := 0, locals := 120 }) (va_Pc [.ref Q.h0] (zPre dC dI sz (rW Q σ) (rT Q))) (va_Qv (fun (_ : Unit) => True) (fun (_ : Unit) (t : State) => zPost dC dI (va_A (rW Q σ) sz) (rW Q R) (rT Q) t) (va_A (rW Q σ) sz)) 0 0 (va_A (rW Q σ) sz) := by
  refine Met.ofW (cc := cX12_readName) (maxL := 5) (ret := none) (by decide) rfl ?_
  intro p e s m args below meth c s₁ B hml hv
  obtain ⟨rfl, hsz, hZ, hP, hK, hD0⟩ := hv
  have hx := B.exec
  have hb := B.bytes
  have hr := B.returns
  have hts := atoms_spec (ws := wzX12_readName) B.pre
  have hown : s.vm.findClass RX12 = some m.cls := findClass_of_methodNamed B.named
  have hlocks := B.notSynchronized
  subst hsz
  have hD := hD0.self (sz := s.heap.size)
  generalize hAe : va_A (rW Q σ) s.heap.size = A at hD ⊢
  have hA : ∀ q : Nat, s.heap.size ≤ q → A q := fun q h => by rw [← hAe]; exact Or.inr h
  have hS : va_S A s.heap s.heap [] := va_S.rf
  have hl := lv_entry ([.ref Q.h0]) (n := 5) (Nat.le_of_ble_eq_true rfl)
  rw [lg_entry_eq]
  generalize (lg_sl ([.ref Q.h0]) ++ List.replicate (5 - (lg_sl ([.ref Q.h0])).length) Slot.unset).toArray = ls at hl ⊢
  have hl : lv_has ls 5 [(0, .ref Q.h0)] := hl
  unfold f_X12_readName at hf
  refine lv_aload_n hx hb dX12_readName_0 rfl (lv_at hl 0 rfl) ?_
  refine lv_lconst (v := 0) hx hb dX12_readName_1 (by decide) ?_
  refine rP_13 hx hb hts i_X12_readName_X12 hown hK hP hD hS (hts (.fieldLink RX12 327 "StatementRules2Model" "name" "J") k_X12_readName_fieldLink_RX12_327_SRModel_name_J) dX12_readName_2 (fun H locs hP hD hS => ?_)
  exact j_X12_readName_5 l dC dI Q N R hx hb hr hml hown hts hlocks hZ hA hK N (RS.setL σ 0) _ _ _ hf hP hD hS (lv_sub hl [0] rfl)
end
section
theorem k_X12_readSign_fieldLink_RX12_297_SRModel_to_I : Cond.fieldLink RX12 297 "StatementRules2Model" "to" "I" ∈ wzX12_readSign := List.mem_cons_of_mem _ (List.mem_append_left _ (List.mem_of_getElem? (i := 0) rfl))
theorem i_X12_readSign_X12 : ∀ w ∈ wsX120, w ∈ wzX12_readSign := fun _ h => List.mem_cons_of_mem _ (List.mem_append_right _ (List.mem_append_left _ (h)))
theorem k_X12_readSign_fieldLink_RX12_307_SRModel_tok_I : Cond.fieldLink RX12 307 "StatementRules2Model" "tok" "I" ∈ wzX12_readSign := List.mem_cons_of_mem _ (List.mem_append_left _ (List.mem_of_getElem? (i := 1) rfl))
set_option maxHeartbeats 4000000 in
set_option maxRecDepth 100000 in
theorem j_X12_readSign_306 {p : Program} {e : Env} {s : State} {m : MethodId} {args : Array Value} {below : List Frame} {meth : Method} {c : Code} {A : Nat → Prop} (l : Launch) (dC : Nat → ClassId) (dI : Nat → Nat → Nat) (Q : RQ) (N : Nat) (R : RS) (hx : p.tables.exec = Jvm.exec) (hb : c.code = cX12_readSign) (hr : meth.sig.returnType = none) (hml : c.maxLocals = 5) (hown : s.vm.findClass RX12 = some m.cls) (hts : ∀ w ∈ wzX12_readSign, w.before args s = true) (hlocks : meth.locks = false) (hZ : zAMB s) (hA : ∀ q : Nat, s.heap.size ≤ q → A q) (hK : va_K (dC, dI) vwCl (rT Q) s) : ∀ (σ : RS) (x1 : Int32) (x4 : Int32) (H : Heap) (locs : List Loc) (ls : Array Slot), f_X12_readSign_306 N σ x1 x4 = some R → va_P (dC, dI) vwCl (rW Q σ) H → va_D A (rW Q σ) → va_S A s.heap H locs → lv_has ls 5 [(0, .ref Q.h0), (1, .int x1), (4, .int x4)] → W p l e ({ frames := 2, cells := 0, slots := 0, locals := 120 }) s m args below meth c H locs 0 0 (MQ below (va_Qv (fun (_ : Unit) => True) (fun (_ : Unit) (t : State) => zPost dC dI A (rW Q R) (rT Q) t) A) args s 0 0 A) (F0 m 306 ls []) := by
  intro σ x1 x4 H locs ls hf hP hD hS hl
  unfold f_X12_readSign_306 at hf
  refine lv_aload_n hx hb dX12_readSign_306 rfl (lv_at hl 0 rfl) ?_
  refine lv_iload hx hb dX12_readSign_307 (lv_at hl 2 rfl) ?_
  refine lv_if_eq (tgt := 316) hx hb dX12_readSign_309 (by decide) (fun c13 => ?_) (fun c13 => ?_)
  ·
    replace hf := (if_pos c13).symm.trans hf
    refine lv_bipush (v := 6) hx hb dX12_readSign_316 (by decide) ?_
    refine rP_10 hx hb hts i_X12_readSign_X12 hown hK hP hD hS (hts (.fieldLink RX12 307 "StatementRules2Model" "tok" "I") k_X12_readSign_fieldLink_RX12_307_SRModel_tok_I) dX12_readSign_318 (fun H locs hP hD hS => ?_)
    obtain rfl := Option.some.inj hf
    exact W.vret hx hb hr (fun t ht hW => ⟨⟨(), rfl, trivial, by rw [ht]; exact hP, va_K.moved hW.alike hK, hD⟩, hS.F ht⟩) hS.2.2 dX12_readSign_321
  ·
    replace hf := (if_neg c13).symm.trans hf
    refine lv_iload_n hx hb dX12_readSign_312 rfl (lv_at hl 1 rfl) ?_
    refine lv_goto (tgt := 318) hx hb dX12_readSign_313 (by decide) ?_
    refine rP_10 hx hb hts i_X12_readSign_X12 hown hK hP hD hS (hts (.fieldLink RX12 307 "StatementRules2Model" "tok" "I") k_X12_readSign_fieldLink_RX12_307_SRModel_tok_I) dX12_readSign_318 (fun H locs hP hD hS => ?_)
    obtain rfl := Option.some.inj hf
    exact W.vret hx hb hr (fun t ht hW => ⟨⟨(), rfl, trivial, by rw [ht]; exact hP, va_K.moved hW.alike hK, hD⟩, hS.F ht⟩) hS.2.2 dX12_readSign_321
set_option maxHeartbeats 4000000 in
set_option maxRecDepth 100000 in
theorem j_X12_readSign_299 {p : Program} {e : Env} {s : State} {m : MethodId} {args : Array Value} {below : List Frame} {meth : Method} {c : Code} {A : Nat → Prop} (l : Launch) (dC : Nat → ClassId) (dI : Nat → Nat → Nat) (Q : RQ) (N : Nat) (R : RS) (hx : p.tables.exec = Jvm.exec) (hb : c.code = cX12_readSign) (hr : meth.sig.returnType = none) (hml : c.maxLocals = 5) (hown : s.vm.findClass RX12 = some m.cls) (hts : ∀ w ∈ wzX12_readSign, w.before args s = true) (hlocks : meth.locks = false) (hZ : zAMB s) (hA : ∀ q : Nat, s.heap.size ≤ q → A q) (hK : va_K (dC, dI) vwCl (rT Q) s) : ∀ (σ : RS) (x1 : Int32) (H : Heap) (locs : List Loc) (ls : Array Slot), f_X12_readSign_299 N σ x1 = some R → va_P (dC, dI) vwCl (rW Q σ) H → va_D A (rW Q σ) → va_S A s.heap H locs → lv_has ls 5 [(0, .ref Q.h0), (1, .int x1)] → W p l e ({ frames := 2, cells := 0, slots := 0, locals := 120 }) s m args below meth c H locs 0 0 (MQ below (va_Qv (fun (_ : Unit) => True) (fun (_ : Unit) (t : State) => zPost dC dI A (rW Q R) (rT Q) t) A) args s 0 0 A) (F0 m 299 ls []) := by
  intro σ x1 H locs ls hf hP hD hS hl
  unfold f_X12_readSign_299 at hf
  refine lv_iconst (v := 1) hx hb dX12_readSign_299 (by decide) ?_
  refine lv_goto (tgt := 304) hx hb dX12_readSign_300 (by decide) ?_
  refine lv_istore (lv' := [(4, .int 1), (0, .ref Q.h0), (1, .int x1)]) hx hb dX12_readSign_304 hl (by decide) rfl (fun ls hl => ?_)
  exact j_X12_readSign_306 l dC dI Q N R hx hb hr hml hown hts hlocks hZ hA hK σ x1 1 _ _ _ hf hP hD hS (lv_sub hl [1, 2, 0] rfl)
set_option maxHeartbeats 4000000 in
set_option maxRecDepth 100000 in
theorem j_X12_readSign_165 {p : Program} {e : Env} {s : State} {m : MethodId} {args : Array Value} {below : List Frame} {meth : Method} {c : Code} {A : Nat → Prop} (l : Launch) (dC : Nat → ClassId) (dI : Nat → Nat → Nat) (Q : RQ) (N : Nat) (R : RS) (hx : p.tables.exec = Jvm.exec) (hb : c.code = cX12_readSign) (hr : meth.sig.returnType = none) (hml : c.maxLocals = 5) (hown : s.vm.findClass RX12 = some m.cls) (hts : ∀ w ∈ wzX12_readSign, w.before args s = true) (hlocks : meth.locks = false) (hZ : zAMB s) (hA : ∀ q : Nat, s.heap.size ≤ q → A q) (hK : va_K (dC, dI) vwCl (rT Q) s) : ∀ (σ : RS) (x1 : Int32) (x3 : Int32) (H : Heap) (locs : List Loc) (ls : Array Slot), f_X12_readSign_165 N σ x1 x3 = some R → va_P (dC, dI) vwCl (rW Q σ) H → va_D A (rW Q σ) → va_S A s.heap H locs → lv_has ls 5 [(0, .ref Q.h0), (1, .int x1), (3, .int x3)] → W p l e ({ frames := 2, cells := 0, slots := 0, locals := 120 }) s m args below meth c H locs 0 0 (MQ below (va_Qv (fun (_ : Unit) => True) (fun (_ : Unit) (t : State) => zPost dC dI A (rW Q R) (rT Q) t) A) args s 0 0 A) (F0 m 165 ls []) := by
  intro σ x1 x3 H locs ls hf hP hD hS hl
  unfold f_X12_readSign_165 at hf
  refine lv_iload_n hx hb dX12_readSign_165 rfl (lv_at hl 2 rfl) ?_
  refine lv_if_le (tgt := 185) hx hb dX12_readSign_166 (by decide) (fun c11 => ?_) (fun c11 => ?_)
  ·
    replace hf := (if_pos c11).symm.trans hf
    refine lv_iload_n hx hb dX12_readSign_185 rfl (lv_at hl 1 rfl) ?_
    refine lv_bipush (v := 123) hx hb dX12_readSign_186 (by decide) ?_
    refine lv_icmp_eq (tgt := 299) hx hb dX12_readSign_188 (by decide) (fun c12 => ?_) (fun c12 => ?_)
    ·
      replace hf := (if_pos c12).symm.trans hf
      exact j_X12_readSign_299 l dC dI Q N R hx hb hr hml hown hts hlocks hZ hA hK σ x1 _ _ _ hf hP hD hS (lv_sub hl [0, 1] rfl)
    ·
      replace hf := (if_neg c12).symm.trans hf
      refine lv_iload_n hx hb dX12_readSign_191 rfl (lv_at hl 1 rfl) ?_
      refine lv_bipush (v := 125) hx hb dX12_readSign_192 (by decide) ?_
      refine lv_icmp_eq (tgt := 299) hx hb dX12_readSign_194 (by decide) (fun c14 => ?_) (fun c14 => ?_)
      ·
        replace hf := (if_pos c14).symm.trans hf
        exact j_X12_readSign_299 l dC dI Q N R hx hb hr hml hown hts hlocks hZ hA hK σ x1 _ _ _ hf hP hD hS (lv_sub hl [0, 1] rfl)
      ·
        replace hf := (if_neg c14).symm.trans hf
        refine lv_iload_n hx hb dX12_readSign_197 rfl (lv_at hl 1 rfl) ?_
        refine lv_bipush (v := 40) hx hb dX12_readSign_198 (by decide) ?_
        refine lv_icmp_eq (tgt := 299) hx hb dX12_readSign_200 (by decide) (fun c15 => ?_) (fun c15 => ?_)
        ·
          replace hf := (if_pos c15).symm.trans hf
          exact j_X12_readSign_299 l dC dI Q N R hx hb hr hml hown hts hlocks hZ hA hK σ x1 _ _ _ hf hP hD hS (lv_sub hl [0, 1] rfl)
        ·
          replace hf := (if_neg c15).symm.trans hf
          refine lv_iload_n hx hb dX12_readSign_203 rfl (lv_at hl 1 rfl) ?_
          refine lv_bipush (v := 41) hx hb dX12_readSign_204 (by decide) ?_
          refine lv_icmp_eq (tgt := 299) hx hb dX12_readSign_206 (by decide) (fun c16 => ?_) (fun c16 => ?_)
          ·
            replace hf := (if_pos c16).symm.trans hf
            exact j_X12_readSign_299 l dC dI Q N R hx hb hr hml hown hts hlocks hZ hA hK σ x1 _ _ _ hf hP hD hS (lv_sub hl [0, 1] rfl)
          ·
            replace hf := (if_neg c16).symm.trans hf
            refine lv_iload_n hx hb dX12_readSign_209 rfl (lv_at hl 1 rfl) ?_
            refine lv_bipush (v := 91) hx hb dX12_readSign_210 (by decide) ?_
            refine lv_icmp_eq (tgt := 299) hx hb dX12_readSign_212 (by decide) (fun c17 => ?_) (fun c17 => ?_)
            ·
              replace hf := (if_pos c17).symm.trans hf
              exact j_X12_readSign_299 l dC dI Q N R hx hb hr hml hown hts hlocks hZ hA hK σ x1 _ _ _ hf hP hD hS (lv_sub hl [0, 1] rfl)
            ·
              replace hf := (if_neg c17).symm.trans hf
              refine lv_iload_n hx hb dX12_readSign_215 rfl (lv_at hl 1 rfl) ?_
              refine lv_bipush (v := 93) hx hb dX12_readSign_216 (by decide) ?_
              refine lv_icmp_eq (tgt := 299) hx hb dX12_readSign_218 (by decide) (fun c18 => ?_) (fun c18 => ?_)
              ·
                replace hf := (if_pos c18).symm.trans hf
                exact j_X12_readSign_299 l dC dI Q N R hx hb hr hml hown hts hlocks hZ hA hK σ x1 _ _ _ hf hP hD hS (lv_sub hl [0, 1] rfl)
              ·
                replace hf := (if_neg c18).symm.trans hf
                refine lv_iload_n hx hb dX12_readSign_221 rfl (lv_at hl 1 rfl) ?_
                refine lv_bipush (v := 59) hx hb dX12_readSign_222 (by decide) ?_
                refine lv_icmp_eq (tgt := 299) hx hb dX12_readSign_224 (by decide) (fun c19 => ?_) (fun c19 => ?_)
                ·
                  replace hf := (if_pos c19).symm.trans hf
                  exact j_X12_readSign_299 l dC dI Q N R hx hb hr hml hown hts hlocks hZ hA hK σ x1 _ _ _ hf hP hD hS (lv_sub hl [0, 1] rfl)
                ·
                  replace hf := (if_neg c19).symm.trans hf
                  refine lv_iload_n hx hb dX12_readSign_227 rfl (lv_at hl 1 rfl) ?_
                  refine lv_bipush (v := 58) hx hb dX12_readSign_228 (by decide) ?_
                  refine lv_icmp_eq (tgt := 299) hx hb dX12_readSign_230 (by decide) (fun c20 => ?_) (fun c20 => ?_)
                  ·
                    replace hf := (if_pos c20).symm.trans hf
                    exact j_X12_readSign_299 l dC dI Q N R hx hb hr hml hown hts hlocks hZ hA hK σ x1 _ _ _ hf hP hD hS (lv_sub hl [0, 1] rfl)
                  ·
                    replace hf := (if_neg c20).symm.trans hf
                    refine lv_iload_n hx hb dX12_readSign_233 rfl (lv_at hl 1 rfl) ?_
                    refine lv_bipush (v := 44) hx hb dX12_readSign_234 (by decide) ?_
                    refine lv_icmp_eq (tgt := 299) hx hb dX12_readSign_236 (by decide) (fun c21 => ?_) (fun c21 => ?_)
                    ·
                      replace hf := (if_pos c21).symm.trans hf
                      exact j_X12_readSign_299 l dC dI Q N R hx hb hr hml hown hts hlocks hZ hA hK σ x1 _ _ _ hf hP hD hS (lv_sub hl [0, 1] rfl)
                    ·
                      replace hf := (if_neg c21).symm.trans hf
                      refine lv_iload_n hx hb dX12_readSign_239 rfl (lv_at hl 1 rfl) ?_
                      refine lv_bipush (v := 61) hx hb dX12_readSign_240 (by decide) ?_
                      refine lv_icmp_eq (tgt := 299) hx hb dX12_readSign_242 (by decide) (fun c22 => ?_) (fun c22 => ?_)
                      ·
                        replace hf := (if_pos c22).symm.trans hf
                        exact j_X12_readSign_299 l dC dI Q N R hx hb hr hml hown hts hlocks hZ hA hK σ x1 _ _ _ hf hP hD hS (lv_sub hl [0, 1] rfl)
                      ·
                        replace hf := (if_neg c22).symm.trans hf
                        refine lv_iload_n hx hb dX12_readSign_245 rfl (lv_at hl 1 rfl) ?_
                        refine lv_bipush (v := 43) hx hb dX12_readSign_246 (by decide) ?_
                        refine lv_icmp_eq (tgt := 299) hx hb dX12_readSign_248 (by decide) (fun c23 => ?_) (fun c23 => ?_)
                        ·
                          replace hf := (if_pos c23).symm.trans hf
                          exact j_X12_readSign_299 l dC dI Q N R hx hb hr hml hown hts hlocks hZ hA hK σ x1 _ _ _ hf hP hD hS (lv_sub hl [0, 1] rfl)
                        ·
                          replace hf := (if_neg c23).symm.trans hf
                          refine lv_iload_n hx hb dX12_readSign_251 rfl (lv_at hl 1 rfl) ?_
                          refine lv_bipush (v := 45) hx hb dX12_readSign_252 (by decide) ?_
                          refine lv_icmp_eq (tgt := 299) hx hb dX12_readSign_254 (by decide) (fun c24 => ?_) (fun c24 => ?_)
                          ·
                            replace hf := (if_pos c24).symm.trans hf
                            exact j_X12_readSign_299 l dC dI Q N R hx hb hr hml hown hts hlocks hZ hA hK σ x1 _ _ _ hf hP hD hS (lv_sub hl [0, 1] rfl)
                          ·
                            replace hf := (if_neg c24).symm.trans hf
                            refine lv_iload_n hx hb dX12_readSign_257 rfl (lv_at hl 1 rfl) ?_
                            refine lv_bipush (v := 42) hx hb dX12_readSign_258 (by decide) ?_
                            refine lv_icmp_eq (tgt := 299) hx hb dX12_readSign_260 (by decide) (fun c25 => ?_) (fun c25 => ?_)
                            ·
                              replace hf := (if_pos c25).symm.trans hf
                              exact j_X12_readSign_299 l dC dI Q N R hx hb hr hml hown hts hlocks hZ hA hK σ x1 _ _ _ hf hP hD hS (lv_sub hl [0, 1] rfl)
                            ·
                              replace hf := (if_neg c25).symm.trans hf
                              refine lv_iload_n hx hb dX12_readSign_263 rfl (lv_at hl 1 rfl) ?_
                              refine lv_bipush (v := 47) hx hb dX12_readSign_264 (by decide) ?_
                              refine lv_icmp_eq (tgt := 299) hx hb dX12_readSign_266 (by decide) (fun c26 => ?_) (fun c26 => ?_)
                              ·
                                replace hf := (if_pos c26).symm.trans hf
                                exact j_X12_readSign_299 l dC dI Q N R hx hb hr hml hown hts hlocks hZ hA hK σ x1 _ _ _ hf hP hD hS (lv_sub hl [0, 1] rfl)
                              ·
                                replace hf := (if_neg c26).symm.trans hf
                                refine lv_iload_n hx hb dX12_readSign_269 rfl (lv_at hl 1 rfl) ?_
                                refine lv_bipush (v := 37) hx hb dX12_readSign_270 (by decide) ?_
                                refine lv_icmp_eq (tgt := 299) hx hb dX12_readSign_272 (by decide) (fun c27 => ?_) (fun c27 => ?_)
                                ·
                                  replace hf := (if_pos c27).symm.trans hf
                                  exact j_X12_readSign_299 l dC dI Q N R hx hb hr hml hown hts hlocks hZ hA hK σ x1 _ _ _ hf hP hD hS (lv_sub hl [0, 1] rfl)
                                ·
                                  replace hf := (if_neg c27).symm.trans hf
                                  refine lv_iload_n hx hb dX12_readSign_275 rfl (lv_at hl 1 rfl) ?_
                                  refine lv_bipush (v := 60) hx hb dX12_readSign_276 (by decide) ?_
                                  refine lv_icmp_eq (tgt := 299) hx hb dX12_readSign_278 (by decide) (fun c28 => ?_) (fun c28 => ?_)
                                  ·
                                    replace hf := (if_pos c28).symm.trans hf
                                    exact j_X12_readSign_299 l dC dI Q N R hx hb hr hml hown hts hlocks hZ hA hK σ x1 _ _ _ hf hP hD hS (lv_sub hl [0, 1] rfl)
                                  ·
                                    replace hf := (if_neg c28).symm.trans hf
                                    refine lv_iload_n hx hb dX12_readSign_281 rfl (lv_at hl 1 rfl) ?_
                                    refine lv_bipush (v := 62) hx hb dX12_readSign_282 (by decide) ?_
                                    refine lv_icmp_eq (tgt := 299) hx hb dX12_readSign_284 (by decide) (fun c29 => ?_) (fun c29 => ?_)
                                    ·
                                      replace hf := (if_pos c29).symm.trans hf
                                      exact j_X12_readSign_299 l dC dI Q N R hx hb hr hml hown hts hlocks hZ hA hK σ x1 _ _ _ hf hP hD hS (lv_sub hl [0, 1] rfl)
                                    ·
                                      replace hf := (if_neg c29).symm.trans hf
                                      refine lv_iload_n hx hb dX12_readSign_287 rfl (lv_at hl 1 rfl) ?_
                                      refine lv_bipush (v := 33) hx hb dX12_readSign_288 (by decide) ?_
                                      refine lv_icmp_eq (tgt := 299) hx hb dX12_readSign_290 (by decide) (fun c30 => ?_) (fun c30 => ?_)
                                      ·
                                        replace hf := (if_pos c30).symm.trans hf
                                        exact j_X12_readSign_299 l dC dI Q N R hx hb hr hml hown hts hlocks hZ hA hK σ x1 _ _ _ hf hP hD hS (lv_sub hl [0, 1] rfl)
                                      ·
                                        replace hf := (if_neg c30).symm.trans hf
                                        refine lv_iload_n hx hb dX12_readSign_293 rfl (lv_at hl 1 rfl) ?_
                                        refine lv_bipush (v := 124) hx hb dX12_readSign_294 (by decide) ?_
                                        refine lv_icmp_ne (tgt := 303) hx hb dX12_readSign_296 (by decide) (fun c31 => ?_) (fun c31 => ?_)
                                        ·
                                          replace hf := (if_neg c31).symm.trans hf
                                          refine lv_iconst (v := 0) hx hb dX12_readSign_303 (by decide) ?_
                                          refine lv_istore (lv' := [(4, .int 0), (0, .ref Q.h0), (1, .int x1), (3, .int x3)]) hx hb dX12_readSign_304 hl (by decide) rfl (fun ls hl => ?_)
                                          exact j_X12_readSign_306 l dC dI Q N R hx hb hr hml hown hts hlocks hZ hA hK σ x1 0 _ _ _ hf hP hD hS (lv_sub hl [1, 2, 0] rfl)
                                        ·
                                          replace hf := (if_pos c31).symm.trans hf
                                          exact j_X12_readSign_299 l dC dI Q N R hx hb hr hml hown hts hlocks hZ hA hK σ x1 _ _ _ hf hP hD hS (lv_sub hl [0, 1] rfl)
  ·
    replace hf := (if_neg c11).symm.trans hf
    refine lv_aload_n hx hb dX12_readSign_169 rfl (lv_at hl 0 rfl) ?_
    refine lv_dup hx hb dX12_readSign_170 rfl ?_
    refine rG_12 (v := (σ.i 12)) hx hb hts i_X12_readSign_X12 hown hK hP (hts (.fieldLink RX12 297 "StatementRules2Model" "to" "I") k_X12_readSign_fieldLink_RX12_297_SRModel_to_I) dX12_readSign_171 rfl ?_
    refine lv_iconst (v := 1) hx hb dX12_readSign_174 (by decide) ?_
    refine lv_iadd hx hb dX12_readSign_175 ?_
    refine rP_12 hx hb hts i_X12_readSign_X12 hown hK hP hD hS (hts (.fieldLink RX12 297 "StatementRules2Model" "to" "I") k_X12_readSign_fieldLink_RX12_297_SRModel_to_I) dX12_readSign_176 (fun H locs hP hD hS => ?_)
    refine lv_aload_n hx hb dX12_readSign_179 rfl (lv_at hl 0 rfl) ?_
    refine lv_iload_n hx hb dX12_readSign_180 rfl (lv_at hl 2 rfl) ?_
    refine rP_10 hx hb hts i_X12_readSign_X12 hown hK hP hD hS (hts (.fieldLink RX12 307 "StatementRules2Model" "tok" "I") k_X12_readSign_fieldLink_RX12_307_SRModel_tok_I) dX12_readSign_181 (fun H locs hP hD hS => ?_)
    obtain rfl := Option.some.inj hf
    exact W.vret hx hb hr (fun t ht hW => ⟨⟨(), rfl, trivial, by rw [ht]; exact hP, va_K.moved hW.alike hK, hD⟩, hS.F ht⟩) hS.2.2 dX12_readSign_184
set_option maxHeartbeats 4000000 in
set_option maxRecDepth 100000 in
theorem j_X12_readSign_163 {p : Program} {e : Env} {s : State} {m : MethodId} {args : Array Value} {below : List Frame} {meth : Method} {c : Code} {A : Nat → Prop} (l : Launch) (dC : Nat → ClassId) (dI : Nat → Nat → Nat) (Q : RQ) (N : Nat) (R : RS) (hx : p.tables.exec = Jvm.exec) (hb : c.code = cX12_readSign) (hr : meth.sig.returnType = none) (hml : c.maxLocals = 5) (hown : s.vm.findClass RX12 = some m.cls) (hts : ∀ w ∈ wzX12_readSign, w.before args s = true) (hlocks : meth.locks = false) (hZ : zAMB s) (hA : ∀ q : Nat, s.heap.size ≤ q → A q) (hK : va_K (dC, dI) vwCl (rT Q) s) : ∀ (σ : RS) (x1 : Int32) (H : Heap) (locs : List Loc) (ls : Array Slot), f_X12_readSign_163 N σ x1 = some R → va_P (dC, dI) vwCl (rW Q σ) H → va_D A (rW Q σ) → va_S A s.heap H locs → lv_has ls 5 [(0, .ref Q.h0), (1, .int x1)] → W p l e ({ frames := 2, cells := 0, slots := 0, locals := 120 }) s m args below meth c H locs 0 0 (MQ below (va_Qv (fun (_ : Unit) => True) (fun (_ : Unit) (t : State) => zPost dC dI A (rW Q R) (rT Q) t) A) args s 0 0 A) (F0 m 163 ls []) := by
  intro σ x1 H locs ls hf hP hD hS hl
  unfold f_X12_readSign_163 at hf
  refine lv_iconst (v := 0) hx hb dX12_readSign_163 (by decide) ?_
  refine lv_istore_n (lv' := [(3, .int 0), (0, .ref Q.h0), (1, .int x1)]) hx hb dX12_readSign_164 rfl hl (by decide) rfl (fun ls hl => ?_)
  exact j_X12_readSign_165 l dC dI Q N R hx hb hr hml hown hts hlocks hZ hA hK σ x1 0 _ _ _ hf hP hD hS (lv_sub hl [1, 2, 0] rfl)
set_option maxHeartbeats 4000000 in
set_option maxRecDepth 100000 in
theorem j_X12_readSign_145 {p : Program} {e : Env} {s : State} {m : MethodId} {args : Array Value} {below : List Frame} {meth : Method} {c : Code} {A : Nat → Prop} (l : Launch) (dC : Nat → ClassId) (dI : Nat → Nat → Nat) (Q : RQ) (N : Nat) (R : RS) (hx : p.tables.exec = Jvm.exec) (hb : c.code = cX12_readSign) (hr : meth.sig.returnType = none) (hml : c.maxLocals = 5) (hown : s.vm.findClass RX12 = some m.cls) (hts : ∀ w ∈ wzX12_readSign, w.before args s = true) (hlocks : meth.locks = false) (hZ : zAMB s) (hA : ∀ q : Nat, s.heap.size ≤ q → A q) (hK : va_K (dC, dI) vwCl (rT Q) s) : ∀ (σ : RS) (x1 : Int32) (x2 : Int32) (H : Heap) (locs : List Loc) (ls : Array Slot), f_X12_readSign_145 N σ x1 x2 = some R → va_P (dC, dI) vwCl (rW Q σ) H → va_D A (rW Q σ) → va_S A s.heap H locs → lv_has ls 5 [(0, .ref Q.h0), (1, .int x1), (2, .int x2)] → W p l e ({ frames := 2, cells := 0, slots := 0, locals := 120 }) s m args below meth c H locs 0 0 (MQ below (va_Qv (fun (_ : Unit) => True) (fun (_ : Unit) (t : State) => zPost dC dI A (rW Q R) (rT Q) t) A) args s 0 0 A) (F0 m 145 ls []) := by
  intro σ x1 x2 H locs ls hf hP hD hS hl
  unfold f_X12_readSign_145 at hf
  refine lv_iload_n hx hb dX12_readSign_145 rfl (lv_at hl 1 rfl) ?_
  refine lv_bipush (v := 43) hx hb dX12_readSign_146 (by decide) ?_
  refine lv_icmp_ne (tgt := 163) hx hb dX12_readSign_148 (by decide) (fun c10 => ?_) (fun c10 => ?_)
  ·
    replace hf := (if_neg c10).symm.trans hf
    exact j_X12_readSign_163 l dC dI Q N R hx hb hr hml hown hts hlocks hZ hA hK σ x1 _ _ _ hf hP hD hS (lv_sub hl [0, 1] rfl)
  ·
    replace hf := (if_pos c10).symm.trans hf
    refine lv_iload_n hx hb dX12_readSign_151 rfl (lv_at hl 2 rfl) ?_
    refine lv_bipush (v := 43) hx hb dX12_readSign_152 (by decide) ?_
    refine lv_icmp_ne (tgt := 163) hx hb dX12_readSign_154 (by decide) (fun c32 => ?_) (fun c32 => ?_)
    ·
      replace hf := (if_neg c32).symm.trans hf
      exact j_X12_readSign_163 l dC dI Q N R hx hb hr hml hown hts hlocks hZ hA hK σ x1 _ _ _ hf hP hD hS (lv_sub hl [0, 1] rfl)
    ·
      replace hf := (if_pos c32).symm.trans hf
      refine lv_sipush (v := 307) hx hb dX12_readSign_157 (by decide) ?_
      refine lv_goto (tgt := 164) hx hb dX12_readSign_160 (by decide) ?_
      refine lv_istore_n (lv' := [(3, .int 307), (0, .ref Q.h0), (1, .int x1), (2, .int x2)]) hx hb dX12_readSign_164 rfl hl (by decide) rfl (fun ls hl => ?_)
      exact j_X12_readSign_165 l dC dI Q N R hx hb hr hml hown hts hlocks hZ hA hK σ x1 307 _ _ _ hf hP hD hS (lv_sub hl [1, 2, 0] rfl)
set_option maxHeartbeats 4000000 in
set_option maxRecDepth 100000 in
theorem j_X12_readSign_127 {p : Program} {e : Env} {s : State} {m : MethodId} {args : Array Value} {below : List Frame} {meth : Method} {c : Code} {A : Nat → Prop} (l : Launch) (dC : Nat → ClassId) (dI : Nat → Nat → Nat) (Q : RQ) (N : Nat) (R : RS) (hx : p.tables.exec = Jvm.exec) (hb : c.code = cX12_readSign) (hr : meth.sig.returnType = none) (hml : c.maxLocals = 5) (hown : s.vm.findClass RX12 = some m.cls) (hts : ∀ w ∈ wzX12_readSign, w.before args s = true) (hlocks : meth.locks = false) (hZ : zAMB s) (hA : ∀ q : Nat, s.heap.size ≤ q → A q) (hK : va_K (dC, dI) vwCl (rT Q) s) : ∀ (σ : RS) (x1 : Int32) (x2 : Int32) (H : Heap) (locs : List Loc) (ls : Array Slot), f_X12_readSign_127 N σ x1 x2 = some R → va_P (dC, dI) vwCl (rW Q σ) H → va_D A (rW Q σ) → va_S A s.heap H locs → lv_has ls 5 [(0, .ref Q.h0), (1, .int x1), (2, .int x2)] → W p l e ({ frames := 2, cells := 0, slots := 0, locals := 120 }) s m args below meth c H locs 0 0 (MQ below (va_Qv (fun (_ : Unit) => True) (fun (_ : Unit) (t : State) => zPost dC dI A (rW Q R) (rT Q) t) A) args s 0 0 A) (F0 m 127 ls []) := by
  intro σ x1 x2 H locs ls hf hP hD hS hl
  unfold f_X12_readSign_127 at hf
  refine lv_iload_n hx hb dX12_readSign_127 rfl (lv_at hl 1 rfl) ?_
  refine lv_bipush (v := 45) hx hb dX12_readSign_128 (by decide) ?_
  refine lv_icmp_ne (tgt := 145) hx hb dX12_readSign_130 (by decide) (fun c9 => ?_) (fun c9 => ?_)
  ·
    replace hf := (if_neg c9).symm.trans hf
    exact j_X12_readSign_145 l dC dI Q N R hx hb hr hml hown hts hlocks hZ hA hK σ x1 x2 _ _ _ hf hP hD hS (lv_sub hl [0, 1, 2] rfl)
  ·
    replace hf := (if_pos c9).symm.trans hf
    refine lv_iload_n hx hb dX12_readSign_133 rfl (lv_at hl 2 rfl) ?_
    refine lv_bipush (v := 62) hx hb dX12_readSign_134 (by decide) ?_
    refine lv_icmp_ne (tgt := 145) hx hb dX12_readSign_136 (by decide) (fun c33 => ?_) (fun c33 => ?_)
    ·
      replace hf := (if_neg c33).symm.trans hf
      exact j_X12_readSign_145 l dC dI Q N R hx hb hr hml hown hts hlocks hZ hA hK σ x1 x2 _ _ _ hf hP hD hS (lv_sub hl [0, 1, 2] rfl)
    ·
      replace hf := (if_pos c33).symm.trans hf
      refine lv_sipush (v := 306) hx hb dX12_readSign_139 (by decide) ?_
      refine lv_goto (tgt := 164) hx hb dX12_readSign_142 (by decide) ?_
      refine lv_istore_n (lv' := [(3, .int 306), (0, .ref Q.h0), (1, .int x1), (2, .int x2)]) hx hb dX12_readSign_164 rfl hl (by decide) rfl (fun ls hl => ?_)
      exact j_X12_readSign_165 l dC dI Q N R hx hb hr hml hown hts hlocks hZ hA hK σ x1 306 _ _ _ hf hP hD hS (lv_sub hl [1, 2, 0] rfl)
set_option maxHeartbeats 4000000 in
set_option maxRecDepth 100000 in
theorem j_X12_readSign_109 {p : Program} {e : Env} {s : State} {m : MethodId} {args : Array Value} {below : List Frame} {meth : Method} {c : Code} {A : Nat → Prop} (l : Launch) (dC : Nat → ClassId) (dI : Nat → Nat → Nat) (Q : RQ) (N : Nat) (R : RS) (hx : p.tables.exec = Jvm.exec) (hb : c.code = cX12_readSign) (hr : meth.sig.returnType = none) (hml : c.maxLocals = 5) (hown : s.vm.findClass RX12 = some m.cls) (hts : ∀ w ∈ wzX12_readSign, w.before args s = true) (hlocks : meth.locks = false) (hZ : zAMB s) (hA : ∀ q : Nat, s.heap.size ≤ q → A q) (hK : va_K (dC, dI) vwCl (rT Q) s) : ∀ (σ : RS) (x1 : Int32) (x2 : Int32) (H : Heap) (locs : List Loc) (ls : Array Slot), f_X12_readSign_109 N σ x1 x2 = some R → va_P (dC, dI) vwCl (rW Q σ) H → va_D A (rW Q σ) → va_S A s.heap H locs → lv_has ls 5 [(0, .ref Q.h0), (1, .int x1), (2, .int x2)] → W p l e ({ frames := 2, cells := 0, slots := 0, locals := 120 }) s m args below meth c H locs 0 0 (MQ below (va_Qv (fun (_ : Unit) => True) (fun (_ : Unit) (t : State) => zPost dC dI A (rW Q R) (rT Q) t) A) args s 0 0 A) (F0 m 109 ls []) := by
  intro σ x1 x2 H locs ls hf hP hD hS hl
  unfold f_X12_readSign_109 at hf
  refine lv_iload_n hx hb dX12_readSign_109 rfl (lv_at hl 1 rfl) ?_
  refine lv_bipush (v := 124) hx hb dX12_readSign_110 (by decide) ?_
  refine lv_icmp_ne (tgt := 127) hx hb dX12_readSign_112 (by decide) (fun c8 => ?_) (fun c8 => ?_)
  ·
    replace hf := (if_neg c8).symm.trans hf
    exact j_X12_readSign_127 l dC dI Q N R hx hb hr hml hown hts hlocks hZ hA hK σ x1 x2 _ _ _ hf hP hD hS (lv_sub hl [0, 1, 2] rfl)
  ·
    replace hf := (if_pos c8).symm.trans hf
    refine lv_iload_n hx hb dX12_readSign_115 rfl (lv_at hl 2 rfl) ?_
    refine lv_bipush (v := 124) hx hb dX12_readSign_116 (by decide) ?_
    refine lv_icmp_ne (tgt := 127) hx hb dX12_readSign_118 (by decide) (fun c34 => ?_) (fun c34 => ?_)
    ·
      replace hf := (if_neg c34).symm.trans hf
      exact j_X12_readSign_127 l dC dI Q N R hx hb hr hml hown hts hlocks hZ hA hK σ x1 x2 _ _ _ hf hP hD hS (lv_sub hl [0, 1, 2] rfl)
    ·
      replace hf := (if_pos c34).symm.trans hf
      refine lv_sipush (v := 305) hx hb dX12_readSign_121 (by decide) ?_
      refine lv_goto (tgt := 164) hx hb dX12_readSign_124 (by decide) ?_
      refine lv_istore_n (lv' := [(3, .int 305), (0, .ref Q.h0), (1, .int x1), (2, .int x2)]) hx hb dX12_readSign_164 rfl hl (by decide) rfl (fun ls hl => ?_)
      exact j_X12_readSign_165 l dC dI Q N R hx hb hr hml hown hts hlocks hZ hA hK σ x1 305 _ _ _ hf hP hD hS (lv_sub hl [1, 2, 0] rfl)
set_option maxHeartbeats 4000000 in
set_option maxRecDepth 100000 in
theorem j_X12_readSign_91 {p : Program} {e : Env} {s : State} {m : MethodId} {args : Array Value} {below : List Frame} {meth : Method} {c : Code} {A : Nat → Prop} (l : Launch) (dC : Nat → ClassId) (dI : Nat → Nat → Nat) (Q : RQ) (N : Nat) (R : RS) (hx : p.tables.exec = Jvm.exec) (hb : c.code = cX12_readSign) (hr : meth.sig.returnType = none) (hml : c.maxLocals = 5) (hown : s.vm.findClass RX12 = some m.cls) (hts : ∀ w ∈ wzX12_readSign, w.before args s = true) (hlocks : meth.locks = false) (hZ : zAMB s) (hA : ∀ q : Nat, s.heap.size ≤ q → A q) (hK : va_K (dC, dI) vwCl (rT Q) s) : ∀ (σ : RS) (x1 : Int32) (x2 : Int32) (H : Heap) (locs : List Loc) (ls : Array Slot), f_X12_readSign_91 N σ x1 x2 = some R → va_P (dC, dI) vwCl (rW Q σ) H → va_D A (rW Q σ) → va_S A s.heap H locs → lv_has ls 5 [(0, .ref Q.h0), (1, .int x1), (2, .int x2)] → W p l e ({ frames := 2, cells := 0, slots := 0, locals := 120 }) s m args below meth c H locs 0 0 (MQ below (va_Qv (fun (_ : Unit) => True) (fun (_ : Unit) (t : State) => zPost dC dI A (rW Q R) (rT Q) t) A) args s 0 0 A) (F0 m 91 ls []) := by
  intro σ x1 x2 H locs ls hf hP hD hS hl
  unfold f_X12_readSign_91 at hf
  refine lv_iload_n hx hb dX12_readSign_91 rfl (lv_at hl 1 rfl) ?_
  refine lv_bipush (v := 38) hx hb dX12_readSign_92 (by decide) ?_
  refine lv_icmp_ne (tgt := 109) hx hb dX12_readSign_94 (by decide) (fun c7 => ?_) (fun c7 => ?_)
  ·
    replace hf := (if_neg c7).symm.trans hf
    exact j_X12_readSign_109 l dC dI Q N R hx hb hr hml hown hts hlocks hZ hA hK σ x1 x2 _ _ _ hf hP hD hS (lv_sub hl [0, 1, 2] rfl)
  ·
    replace hf := (if_pos c7).symm.trans hf
    refine lv_iload_n hx hb dX12_readSign_97 rfl (lv_at hl 2 rfl) ?_
    refine lv_bipush (v := 38) hx hb dX12_readSign_98 (by decide) ?_
    refine lv_icmp_ne (tgt := 109) hx hb dX12_readSign_100 (by decide) (fun c35 => ?_) (fun c35 => ?_)
    ·
      replace hf := (if_neg c35).symm.trans hf
      exact j_X12_readSign_109 l dC dI Q N R hx hb hr hml hown hts hlocks hZ hA hK σ x1 x2 _ _ _ hf hP hD hS (lv_sub hl [0, 1, 2] rfl)
    ·
      replace hf := (if_pos c35).symm.trans hf
      refine lv_sipush (v := 304) hx hb dX12_readSign_103 (by decide) ?_
      refine lv_goto (tgt := 164) hx hb dX12_readSign_106 (by decide) ?_
      refine lv_istore_n (lv' := [(3, .int 304), (0, .ref Q.h0), (1, .int x1), (2, .int x2)]) hx hb dX12_readSign_164 rfl hl (by decide) rfl (fun ls hl => ?_)
      exact j_X12_readSign_165 l dC dI Q N R hx hb hr hml hown hts hlocks hZ hA hK σ x1 304 _ _ _ hf hP hD hS (lv_sub hl [1, 2, 0] rfl)
set_option maxHeartbeats 4000000 in
set_option maxRecDepth 100000 in
theorem j_X12_readSign_73 {p : Program} {e : Env} {s : State} {m : MethodId} {args : Array Value} {below : List Frame} {meth : Method} {c : Code} {A : Nat → Prop} (l : Launch) (dC : Nat → ClassId) (dI : Nat → Nat → Nat) (Q : RQ) (N : Nat) (R : RS) (hx : p.tables.exec = Jvm.exec) (hb : c.code = cX12_readSign) (hr : meth.sig.returnType = none) (hml : c.maxLocals = 5) (hown : s.vm.findClass RX12 = some m.cls) (hts : ∀ w ∈ wzX12_readSign, w.before args s = true) (hlocks : meth.locks = false) (hZ : zAMB s) (hA : ∀ q : Nat, s.heap.size ≤ q → A q) (hK : va_K (dC, dI) vwCl (rT Q) s) : ∀ (σ : RS) (x1 : Int32) (x2 : Int32) (H : Heap) (locs : List Loc) (ls : Array Slot), f_X12_readSign_73 N σ x1 x2 = some R → va_P (dC, dI) vwCl (rW Q σ) H → va_D A (rW Q σ) → va_S A s.heap H locs → lv_has ls 5 [(0, .ref Q.h0), (1, .int x1), (2, .int x2)] → W p l e ({ frames := 2, cells := 0, slots := 0, locals := 120 }) s m args below meth c H locs 0 0 (MQ below (va_Qv (fun (_ : Unit) => True) (fun (_ : Unit) (t : State) => zPost dC dI A (rW Q R) (rT Q) t) A) args s 0 0 A) (F0 m 73 ls []) := by
  intro σ x1 x2 H locs ls hf hP hD hS hl
  unfold f_X12_readSign_73 at hf
  refine lv_iload_n hx hb dX12_readSign_73 rfl (lv_at hl 1 rfl) ?_
  refine lv_bipush (v := 33) hx hb dX12_readSign_74 (by decide) ?_
  refine lv_icmp_ne (tgt := 91) hx hb dX12_readSign_76 (by decide) (fun c6 => ?_) (fun c6 => ?_)
  ·
    replace hf := (if_neg c6).symm.trans hf
    exact j_X12_readSign_91 l dC dI Q N R hx hb hr hml hown hts hlocks hZ hA hK σ x1 x2 _ _ _ hf hP hD hS (lv_sub hl [0, 1, 2] rfl)
  ·
    replace hf := (if_pos c6).symm.trans hf
    refine lv_iload_n hx hb dX12_readSign_79 rfl (lv_at hl 2 rfl) ?_
    refine lv_bipush (v := 61) hx hb dX12_readSign_80 (by decide) ?_
    refine lv_icmp_ne (tgt := 91) hx hb dX12_readSign_82 (by decide) (fun c36 => ?_) (fun c36 => ?_)
    ·
      replace hf := (if_neg c36).symm.trans hf
      exact j_X12_readSign_91 l dC dI Q N R hx hb hr hml hown hts hlocks hZ hA hK σ x1 x2 _ _ _ hf hP hD hS (lv_sub hl [0, 1, 2] rfl)
    ·
      replace hf := (if_pos c36).symm.trans hf
      refine lv_sipush (v := 303) hx hb dX12_readSign_85 (by decide) ?_
      refine lv_goto (tgt := 164) hx hb dX12_readSign_88 (by decide) ?_
      refine lv_istore_n (lv' := [(3, .int 303), (0, .ref Q.h0), (1, .int x1), (2, .int x2)]) hx hb dX12_readSign_164 rfl hl (by decide) rfl (fun ls hl => ?_)
      exact j_X12_readSign_165 l dC dI Q N R hx hb hr hml hown hts hlocks hZ hA hK σ x1 303 _ _ _ hf hP hD hS (lv_sub hl [1, 2, 0] rfl)
set_option maxHeartbeats 4000000 in
set_option maxRecDepth 100000 in
theorem j_X12_readSign_55 {p : Program} {e : Env} {s : State} {m : MethodId} {args : Array Value} {below : List Frame} {meth : Method} {c : Code} {A : Nat → Prop} (l : Launch) (dC : Nat → ClassId) (dI : Nat → Nat → Nat) (Q : RQ) (N : Nat) (R : RS) (hx : p.tables.exec = Jvm.exec) (hb : c.code = cX12_readSign) (hr : meth.sig.returnType = none) (hml : c.maxLocals = 5) (hown : s.vm.findClass RX12 = some m.cls) (hts : ∀ w ∈ wzX12_readSign, w.before args s = true) (hlocks : meth.locks = false) (hZ : zAMB s) (hA : ∀ q : Nat, s.heap.size ≤ q → A q) (hK : va_K (dC, dI) vwCl (rT Q) s) : ∀ (σ : RS) (x1 : Int32) (x2 : Int32) (H : Heap) (locs : List Loc) (ls : Array Slot), f_X12_readSign_55 N σ x1 x2 = some R → va_P (dC, dI) vwCl (rW Q σ) H → va_D A (rW Q σ) → va_S A s.heap H locs → lv_has ls 5 [(0, .ref Q.h0), (1, .int x1), (2, .int x2)] → W p l e ({ frames := 2, cells := 0, slots := 0, locals := 120 }) s m args below meth c H locs 0 0 (MQ below (va_Qv (fun (_ : Unit) => True) (fun (_ : Unit) (t : State) => zPost dC dI A (rW Q R) (rT Q) t) A) args s 0 0 A) (F0 m 55 ls []) := by
  intro σ x1 x2 H locs ls hf hP hD hS hl
  unfold f_X12_readSign_55 at hf
  refine lv_iload_n hx hb dX12_readSign_55 rfl (lv_at hl 1 rfl) ?_
  refine lv_bipush (v := 61) hx hb dX12_readSign_56 (by decide) ?_
  refine lv_icmp_ne (tgt := 73) hx hb dX12_readSign_58 (by decide) (fun c5 => ?_) (fun c5 => ?_)
  ·
    replace hf := (if_neg c5).symm.trans hf
    exact j_X12_readSign_73 l dC dI Q N R hx hb hr hml hown hts hlocks hZ hA hK σ x1 x2 _ _ _ hf hP hD hS (lv_sub hl [0, 1, 2] rfl)
  ·
    replace hf := (if_pos c5).symm.trans hf
    refine lv_iload_n hx hb dX12_readSign_61 rfl (lv_at hl 2 rfl) ?_
    refine lv_bipush (v := 61) hx hb dX12_readSign_62 (by decide) ?_
    refine lv_icmp_ne (tgt := 73) hx hb dX12_readSign_64 (by decide) (fun c37 => ?_) (fun c37 => ?_)
    ·
      replace hf := (if_neg c37).symm.trans hf
      exact j_X12_readSign_73 l dC dI Q N R hx hb hr hml hown hts hlocks hZ hA hK σ x1 x2 _ _ _ hf hP hD hS (lv_sub hl [0, 1, 2] rfl)
    ·
      replace hf := (if_pos c37).symm.trans hf
      refine lv_sipush (v := 302) hx hb dX12_readSign_67 (by decide) ?_
      refine lv_goto (tgt := 164) hx hb dX12_readSign_70 (by decide) ?_
      refine lv_istore_n (lv' := [(3, .int 302), (0, .ref Q.h0), (1, .int x1), (2, .int x2)]) hx hb dX12_readSign_164 rfl hl (by decide) rfl (fun ls hl => ?_)
      exact j_X12_readSign_165 l dC dI Q N R hx hb hr hml hown hts hlocks hZ hA hK σ x1 302 _ _ _ hf hP hD hS (lv_sub hl [1, 2, 0] rfl)
set_option maxHeartbeats 4000000 in
set_option maxRecDepth 100000 in
theorem j_X12_readSign_37 {p : Program} {e : Env} {s : State} {m : MethodId} {args : Array Value} {below : List Frame} {meth : Method} {c : Code} {A : Nat → Prop} (l : Launch) (dC : Nat → ClassId) (dI : Nat → Nat → Nat) (Q : RQ) (N : Nat) (R : RS) (hx : p.tables.exec = Jvm.exec) (hb : c.code = cX12_readSign) (hr : meth.sig.returnType = none) (hml : c.maxLocals = 5) (hown : s.vm.findClass RX12 = some m.cls) (hts : ∀ w ∈ wzX12_readSign, w.before args s = true) (hlocks : meth.locks = false) (hZ : zAMB s) (hA : ∀ q : Nat, s.heap.size ≤ q → A q) (hK : va_K (dC, dI) vwCl (rT Q) s) : ∀ (σ : RS) (x1 : Int32) (x2 : Int32) (H : Heap) (locs : List Loc) (ls : Array Slot), f_X12_readSign_37 N σ x1 x2 = some R → va_P (dC, dI) vwCl (rW Q σ) H → va_D A (rW Q σ) → va_S A s.heap H locs → lv_has ls 5 [(0, .ref Q.h0), (1, .int x1), (2, .int x2)] → W p l e ({ frames := 2, cells := 0, slots := 0, locals := 120 }) s m args below meth c H locs 0 0 (MQ below (va_Qv (fun (_ : Unit) => True) (fun (_ : Unit) (t : State) => zPost dC dI A (rW Q R) (rT Q) t) A) args s 0 0 A) (F0 m 37 ls []) := by
  intro σ x1 x2 H locs ls hf hP hD hS hl
  unfold f_X12_readSign_37 at hf
  refine lv_iload_n hx hb dX12_readSign_37 rfl (lv_at hl 1 rfl) ?_
  refine lv_bipush (v := 62) hx hb dX12_readSign_38 (by decide) ?_
  refine lv_icmp_ne (tgt := 55) hx hb dX12_readSign_40 (by decide) (fun c4 => ?_) (fun c4 => ?_)
  ·
    replace hf := (if_neg c4).symm.trans hf
    exact j_X12_readSign_55 l dC dI Q N R hx hb hr hml hown hts hlocks hZ hA hK σ x1 x2 _ _ _ hf hP hD hS (lv_sub hl [0, 1, 2] rfl)
  ·
    replace hf := (if_pos c4).symm.trans hf
    refine lv_iload_n hx hb dX12_readSign_43 rfl (lv_at hl 2 rfl) ?_
    refine lv_bipush (v := 61) hx hb dX12_readSign_44 (by decide) ?_
    refine lv_icmp_ne (tgt := 55) hx hb dX12_readSign_46 (by decide) (fun c38 => ?_) (fun c38 => ?_)
    ·
      replace hf := (if_neg c38).symm.trans hf
      exact j_X12_readSign_55 l dC dI Q N R hx hb hr hml hown hts hlocks hZ hA hK σ x1 x2 _ _ _ hf hP hD hS (lv_sub hl [0, 1, 2] rfl)
    ·
      replace hf := (if_pos c38).symm.trans hf
      refine lv_sipush (v := 301) hx hb dX12_readSign_49 (by decide) ?_
      refine lv_goto (tgt := 164) hx hb dX12_readSign_52 (by decide) ?_
      refine lv_istore_n (lv' := [(3, .int 301), (0, .ref Q.h0), (1, .int x1), (2, .int x2)]) hx hb dX12_readSign_164 rfl hl (by decide) rfl (fun ls hl => ?_)
      exact j_X12_readSign_165 l dC dI Q N R hx hb hr hml hown hts hlocks hZ hA hK σ x1 301 _ _ _ hf hP hD hS (lv_sub hl [1, 2, 0] rfl)
set_option maxHeartbeats 4000000 in
set_option maxRecDepth 100000 in
theorem c_X12_readSign (l : Launch) (dC : Nat → ClassId) (dI : Nat → Nat → Nat) (sz : Nat) (Q : RQ) (N : Nat) (σ : RS) (x1 : Int32) (R : RS) (hf : f_X12_readSign N σ x1 = some R) : Met l yX12_readSign wzX12_readSign ({ frames := 2, cells := 0, slots := 0, locals := 120 }) (va_Pc [.ref Q.h0, .int x1] (zPre dC dI sz (rW Q σ) (rT Q))) (va_Qv (fun (_ : Unit) => True) (fun (_ : Unit) (t : State) => zPost dC dI (va_A (rW Q σ) sz) (rW Q R) (rT Q) t) (va_A (rW Q σ) sz)) 0 0 (va_A (rW Q σ) sz) := by
  refine Met.ofW (cc := cX12_readSign) (maxL := 5) (ret := none) (by decide) rfl ?_
  intro p e s m args below meth c s₁ B hml hv
  obtain ⟨rfl, hsz, hZ, hP, hK, hD0⟩ := hv
  have hx := B.exec
  have hb := B.bytes
  have hr := B.returns
  have hts := atoms_spec (ws := wzX12_readSign) B.pre
  have hown : s.vm.findClass RX12 = some m.cls := findClass_of_methodNamed B.named
  have hlocks := B.notSynchronized
  subst hsz
  have hD := hD0.self (sz := s.heap.size)
  generalize hAe : va_A (rW Q σ) s.heap.size = A at hD ⊢
  have hA : ∀ q : Nat, s.heap.size ≤ q → A q := fun q h => by rw [← hAe]; exact Or.inr h
  have hS : va_S A s.heap s.heap [] := va_S.rf
  have hl := lv_entry ([.ref Q.h0, .int x1]) (n := 5) (Nat.le_of_ble_eq_true rfl)
  rw [lg_entry_eq]
  generalize (lg_sl ([.ref Q.h0, .int x1]) ++ List.replicate (5 - (lg_sl ([.ref Q.h0, .int x1])).length) Slot.unset).toArray = ls at hl ⊢
  have hl : lv_has ls 5 [(0, .ref Q.h0), (1, .int x1)] := hl
  unfold f_X12_readSign at hf
  refine lv_aload_n hx hb dX12_readSign_0 rfl (lv_at hl 0 rfl) ?_
  refine lv_dup hx hb dX12_readSign_1 rfl ?_
  refine rG_12 (v := (σ.i 12)) hx hb hts i_X12_readSign_X12 hown hK hP (hts (.fieldLink RX12 297 "StatementRules2Model" "to" "I") k_X12_readSign_fieldLink_RX12_297_SRModel_to_I) dX12_readSign_2 rfl ?_
  refine lv_iconst (v := 1) hx hb dX12_readSign_5 (by decide) ?_
  refine lv_iadd hx hb dX12_readSign_6 ?_
  refine rP_12 hx hb hts i_X12_readSign_X12 hown hK hP hD hS (hts (.fieldLink RX12 297 "StatementRules2Model" "to" "I") k_X12_readSign_fieldLink_RX12_297_SRModel_to_I) dX12_readSign_7 (fun H locs hP hD hS => ?_)
  refine lv_aload_n hx hb dX12_readSign_10 rfl (lv_at hl 0 rfl) ?_
  refine lv_aload_n hx hb dX12_readSign_11 rfl (lv_at hl 0 rfl) ?_
  refine rG_12 (v := ((σ.i 12) + 1)) hx hb hts i_X12_readSign_X12 hown hK hP (hts (.fieldLink RX12 297 "StatementRules2Model" "to" "I") k_X12_readSign_fieldLink_RX12_297_SRModel_to_I) dX12_readSign_12 rfl ?_
  obtain ⟨p1, hcp1, hf⟩ := hf_bind hf
  have hFc := r_free hD hS hA
  refine va_calli (va_runV (As := [.int ((σ.i 12) + 1)]) (rest := []) ⟨hx, hb, hml, hown, hts⟩ (c_X12_at l dC dI _ Q N (RS.setI σ 12 ((σ.i 12) + 1)) ((σ.i 12) + 1) p1 hcp1) (cwV 1 hts hX12_readSign_X12_at_v300 rfl rfl rfl (by decide +kernel) ⟨Nat.le_of_ble_eq_true rfl, Nat.le_of_ble_eq_true rfl⟩) ⟨zPre.blind, va_recv hK hP (ci := 11) (q0 := 0) rfl rfl, zPre.go hZ hP hK hD⟩ rfl rfl hl.1 rfl (lv_room (Nat.le_of_ble_eq_true rfl)) dX12_readSign_15 ⟨Nat.le_of_ble_eq_true rfl, Nat.le_of_ble_eq_true rfl⟩) hS (fun q _ h => hFc q h) hFc (fun r2 u9 t9 H1 locs ht hvm hw hB hz1 hk1 hS => ?_)
  obtain ⟨hP, hK1, hD1⟩ := hB
  rw [ht] at hP
  have hD := hD1.weaken (fun _ _ _ h => hFc _ h)
  generalize H1 = H at hP hS ⊢
  obtain rfl : r2 = p1.1 := hw
  refine lv_istore_n (lv' := [(2, .int p1.1), (0, .ref Q.h0), (1, .int x1)]) hx hb dX12_readSign_18 rfl hl (by decide) rfl (fun ls hl => ?_)
  refine lv_iload_n hx hb dX12_readSign_19 rfl (lv_at hl 2 rfl) ?_
  refine lv_bipush (v := 60) hx hb dX12_readSign_20 (by decide) ?_
  refine lv_icmp_ne (tgt := 37) hx hb dX12_readSign_22 (by decide) (fun c3 => ?_) (fun c3 => ?_)
  ·
    replace hf := (if_neg c3).symm.trans hf
    exact j_X12_readSign_37 l dC dI Q N R hx hb hr hml hown hts hlocks hZ hA hK p1.2 x1 p1.1 _ _ _ hf hP hD hS (lv_sub hl [1, 2, 0] rfl)
  ·
    replace hf := (if_pos c3).symm.trans hf
    refine lv_iload_n hx hb dX12_readSign_25 rfl (lv_at hl 0 rfl) ?_
    refine lv_bipush (v := 61) hx hb dX12_readSign_26 (by decide) ?_
    refine lv_icmp_ne (tgt := 37) hx hb dX12_readSign_28 (by decide) (fun c39 => ?_) (fun c39 => ?_)
    ·
      replace hf := (if_neg c39).symm.trans hf
      exact j_X12_readSign_37 l dC dI Q N R hx hb hr hml hown hts hlocks hZ hA hK p1.2 x1 p1.1 _ _ _ hf hP hD hS (lv_sub hl [1, 2, 0] rfl)
    ·
      replace hf := (if_pos c39).symm.trans hf
      refine lv_sipush (v := 300) hx hb dX12_readSign_31 (by decide) ?_
      refine lv_goto (tgt := 164) hx hb dX12_readSign_34 (by decide) ?_
      refine lv_istore_n (lv' := [(3, .int 300), (2, .int p1.1), (0, .ref Q.h0), (1, .int x1)]) hx hb dX12_readSign_164 rfl hl (by decide) rfl (fun ls hl => ?_)
      exact j_X12_readSign_165 l dC dI Q N R hx hb hr hml hown hts hlocks hZ hA hK p1.2 x1 300 _ _ _ hf hP hD hS (lv_sub hl [2, 3, 0] rfl)
theorem k_X12_next_fieldLink_RX12_291_SRModel_fault_I : Cond.fieldLink RX12 291 "StatementRules2Model" "fault" "I" ∈ wzX12_next := List.mem_cons_of_mem _ (List.mem_append_left _ (List.mem_of_getElem? (i := 0) rfl))
theorem i_X12_next_X12 : ∀ w ∈ wsX120, w ∈ wzX12_next := fun _ h => List.mem_cons_of_mem _ (List.mem_append_right _ (List.mem_append_left _ (h)))
theorem k_X12_next_fieldLink_RX12_294_SRModel_tokens_I : Cond.fieldLink RX12 294 "StatementRules2Model" "tokens" "I" ∈ wzX12_next := List.mem_cons_of_mem _ (List.mem_append_left _ (List.mem_of_getElem? (i := 1) rfl))
theorem k_X12_next_fieldLink_RX12_297_SRModel_to_I : Cond.fieldLink RX12 297 "StatementRules2Model" "to" "I" ∈ wzX12_next := List.mem_cons_of_mem _ (List.mem_append_left _ (List.mem_of_getElem? (i := 2) rfl))
theorem k_X12_next_fieldLink_RX12_276_SRModel_taped_I : Cond.fieldLink RX12 276 "StatementRules2Model" "taped" "I" ∈ wzX12_next := List.mem_cons_of_mem _ (List.mem_append_left _ (List.mem_of_getElem? (i := 3) rfl))
theorem k_X12_next_fieldLink_RX12_304_SRModel_from_I : Cond.fieldLink RX12 304 "StatementRules2Model" "from" "I" ∈ wzX12_next := List.mem_cons_of_mem _ (List.mem_append_left _ (List.mem_of_getElem? (i := 4) rfl))
theorem k_X12_next_fieldLink_RX12_314_SRModel_number_I : Cond.fieldLink RX12 314 "StatementRules2Model" "number" "I" ∈ wzX12_next := List.mem_cons_of_mem _ (List.mem_append_left _ (List.mem_of_getElem? (i := 5) rfl))
theorem k_X12_next_fieldLink_RX12_307_SRModel_tok_I : Cond.fieldLink RX12 307 "StatementRules2Model" "tok" "I" ∈ wzX12_next := List.mem_cons_of_mem _ (List.mem_append_left _ (List.mem_of_getElem? (i := 6) rfl))
set_option maxHeartbeats 4000000 in
set_option maxRecDepth 100000 in
theorem j_X12_next_211 {p : Program} {e : Env} {s : State} {m : MethodId} {args : Array Value} {below : List Frame} {meth : Method} {c : Code} {A : Nat → Prop} (l : Launch) (dC : Nat → ClassId) (dI : Nat → Nat → Nat) (Q : RQ) (N : Nat) (R : RS) (hx : p.tables.exec = Jvm.exec) (hb : c.code = cX12_next) (hr : meth.sig.returnType = none) (hml : c.maxLocals = 2) (hown : s.vm.findClass RX12 = some m.cls) (hts : ∀ w ∈ wzX12_next, w.before args s = true) (hlocks : meth.locks = false) (hZ : zAMB s) (hA : ∀ q : Nat, s.heap.size ≤ q → A q) (hK : va_K (dC, dI) vwCl (rT Q) s) : ∀ (σ : RS) (H : Heap) (locs : List Loc) (ls : Array Slot), f_X12_next_211 N σ = some R → va_P (dC, dI) vwCl (rW Q σ) H → va_D A (rW Q σ) → va_S A s.heap H locs → lv_has ls 2 [] → W p l e ({ frames := 3, cells := 0, slots := 0, locals := 180 }) s m args below meth c H locs 0 0 (MQ below (va_Qv (fun (_ : Unit) => True) (fun (_ : Unit) (t : State) => zPost dC dI A (rW Q R) (rT Q) t) A) args s 0 0 A) (F0 m 211 ls []) := by
  intro σ  H locs ls hf hP hD hS hl
  unfold f_X12_next_211 at hf
  refine lv_goto (tgt := 233) hx hb dX12_next_211 (by decide) ?_
  obtain rfl := Option.some.inj hf
  exact W.vret hx hb hr (fun t ht hW => ⟨⟨(), rfl, trivial, by rw [ht]; exact hP, va_K.moved hW.alike hK, hD⟩, hS.F ht⟩) hS.2.2 dX12_next_233
set_option maxHeartbeats 4000000 in
set_option maxRecDepth 100000 in
theorem j_X12_next_116 {p : Program} {e : Env} {s : State} {m : MethodId} {args : Array Value} {below : List Frame} {meth : Method} {c : Code} {A : Nat → Prop} (l : Launch) (dC : Nat → ClassId) (dI : Nat → Nat → Nat) (Q : RQ) (N : Nat) (R : RS) (hx : p.tables.exec = Jvm.exec) (hb : c.code = cX12_next) (hr : meth.sig.returnType = none) (hml : c.maxLocals = 2) (hown : s.vm.findClass RX12 = some m.cls) (hts : ∀ w ∈ wzX12_next, w.before args s = true) (hlocks : meth.locks = false) (hZ : zAMB s) (hA : ∀ q : Nat, s.heap.size ≤ q → A q) (hK : va_K (dC, dI) vwCl (rT Q) s) : ∀ (n9 : Nat), ∀ (σ : RS) (H : Heap) (locs : List Loc) (ls : Array Slot), f_X12_next_116 N n9 σ = some R → va_P (dC, dI) vwCl (rW Q σ) H → va_D A (rW Q σ) → va_S A s.heap H locs → lv_has ls 2 [(0, .ref Q.h0)] → W p l e ({ frames := 3, cells := 0, slots := 0, locals := 180 }) s m args below meth c H locs 0 0 (MQ below (va_Qv (fun (_ : Unit) => True) (fun (_ : Unit) (t : State) => zPost dC dI A (rW Q R) (rT Q) t) A) args s 0 0 A) (F0 m 116 ls []) := by
  intro n9
  induction n9 with
  | zero => intro σ  H locs ls hf; exact absurd hf (by intro h9; cases h9)
  | succ n9 ih =>
    intro σ  H locs ls hf hP hD hS hl
    replace hf : b_X12_next_116 N (f_X12_next_116 N n9) σ  = some R := hf
    unfold b_X12_next_116 at hf
    refine lv_aload_n hx hb dX12_next_116 rfl (lv_at hl 0 rfl) ?_
    refine lv_aload_n hx hb dX12_next_117 rfl (lv_at hl 0 rfl) ?_
    refine rG_12 (v := (σ.i 12)) hx hb hts i_X12_next_X12 hown hK hP (hts (.fieldLink RX12 297 "StatementRules2Model" "to" "I") k_X12_next_fieldLink_RX12_297_SRModel_to_I) dX12_next_118 rfl ?_
    obtain ⟨p16, hcp16, hf⟩ := hf_bind hf
    have hFc := r_free hD hS hA
    refine va_calli (va_runV (As := [.int (σ.i 12)]) (rest := []) ⟨hx, hb, hml, hown, hts⟩ (c_X12_at l dC dI _ Q N σ (σ.i 12) p16 hcp16) (cwV 1 hts hX12_next_X12_at_v300 rfl rfl rfl (by decide +kernel) ⟨Nat.le_of_ble_eq_true rfl, Nat.le_of_ble_eq_true rfl⟩) ⟨zPre.blind, va_recv hK hP (ci := 11) (q0 := 0) rfl rfl, zPre.go hZ hP hK hD⟩ rfl rfl hl.1 rfl (lv_room (Nat.le_of_ble_eq_true rfl)) dX12_next_121 ⟨Nat.le_of_ble_eq_true rfl, Nat.le_of_ble_eq_true rfl⟩) hS (fun q _ h => hFc q h) hFc (fun r17 u9 t9 H1 locs ht hvm hw hB hz1 hk1 hS => ?_)
    obtain ⟨hP, hK1, hD1⟩ := hB
    rw [ht] at hP
    have hD := hD1.weaken (fun _ _ _ h => hFc _ h)
    generalize H1 = H at hP hS ⊢
    obtain rfl : r17 = p16.1 := hw
    obtain ⟨p18, hcp18, hf⟩ := hf_bind hf
    have hFc := r_free hD hS hA
    refine va_calli (va_runS (As := [.int p16.1]) (rest := []) ⟨hx, hb, hml, hown, hts⟩ (c_X12_isDigit l dC dI _ Q N p16.2 p16.1 p18 hcp18) (va_cwS 1 hts hX12_next_X12_isDigit_s310 rfl rfl rfl (by decide +kernel) ⟨Nat.le_of_ble_eq_true rfl, Nat.le_of_ble_eq_true rfl⟩) ⟨zPre.blind, zPre.go hZ hP hK hD⟩ rfl rfl hl.1 rfl (lv_room (Nat.le_of_ble_eq_true rfl)) dX12_next_124 ⟨Nat.le_of_ble_eq_true rfl, Nat.le_of_ble_eq_true rfl⟩) hS (fun q _ h => hFc q h) hFc (fun r19 u9 t9 H1 locs ht hvm hw hB hz1 hk1 hS => ?_)
    obtain ⟨hP, hK1, hD1⟩ := hB
    rw [ht] at hP
    have hD := hD1.weaken (fun _ _ _ h => hFc _ h)
    generalize H1 = H at hP hS ⊢
    obtain rfl : r19 = p18.1 := hw
    refine lv_if_eq (tgt := 187) hx hb dX12_next_127 (by decide) (fun c20 => ?_) (fun c20 => ?_)
    ·
      replace hf := (if_pos c20).symm.trans hf
      refine lv_aload_n hx hb dX12_next_187 rfl (lv_at hl 0 rfl) ?_
      refine lv_aload_n hx hb dX12_next_188 rfl (lv_at hl 0 rfl) ?_
      refine rG_12 (v := (p18.2.i 12)) hx hb hts i_X12_next_X12 hown hK hP (hts (.fieldLink RX12 297 "StatementRules2Model" "to" "I") k_X12_next_fieldLink_RX12_297_SRModel_to_I) dX12_next_189 rfl ?_
      refine lv_aload_n hx hb dX12_next_192 rfl (lv_at hl 0 rfl) ?_
      refine rG_11 (v := (p18.2.i 11)) hx hb hts i_X12_next_X12 hown hK hP (hts (.fieldLink RX12 304 "StatementRules2Model" "from" "I") k_X12_next_fieldLink_RX12_304_SRModel_from_I) dX12_next_193 rfl ?_
      refine lv_isub hx hb dX12_next_196 ?_
      refine lv_bipush (v := 9) hx hb dX12_next_197 (by decide) ?_
      refine lv_icmp_le (tgt := 207) hx hb dX12_next_199 (by decide) (fun c21 => ?_) (fun c21 => ?_)
      ·
        replace hf := (if_pos c21).symm.trans hf
        refine lv_iconst (v := 1) hx hb dX12_next_207 (by decide) ?_
        refine rP_10 hx hb hts i_X12_next_X12 hown hK hP hD hS (hts (.fieldLink RX12 307 "StatementRules2Model" "tok" "I") k_X12_next_fieldLink_RX12_307_SRModel_tok_I) dX12_next_208 (fun H locs hP hD hS => ?_)
        exact j_X12_next_211 l dC dI Q N R hx hb hr hml hown hts hlocks hZ hA hK (RS.setI p18.2 10 1) _ _ _ hf hP hD hS (lv_sub hl [] rfl)
      ·
        replace hf := (if_neg c21).symm.trans hf
        refine lv_bipush (v := 6) hx hb dX12_next_202 (by decide) ?_
        refine lv_goto (tgt := 208) hx hb dX12_next_204 (by decide) ?_
        refine rP_10 hx hb hts i_X12_next_X12 hown hK hP hD hS (hts (.fieldLink RX12 307 "StatementRules2Model" "tok" "I") k_X12_next_fieldLink_RX12_307_SRModel_tok_I) dX12_next_208 (fun H locs hP hD hS => ?_)
        exact j_X12_next_211 l dC dI Q N R hx hb hr hml hown hts hlocks hZ hA hK (RS.setI p18.2 10 6) _ _ _ hf hP hD hS (lv_sub hl [] rfl)
    ·
      replace hf := (if_neg c20).symm.trans hf
      refine lv_aload_n hx hb dX12_next_130 rfl (lv_at hl 0 rfl) ?_
      refine lv_aload_n hx hb dX12_next_131 rfl (lv_at hl 0 rfl) ?_
      refine rG_12 (v := (p18.2.i 12)) hx hb hts i_X12_next_X12 hown hK hP (hts (.fieldLink RX12 297 "StatementRules2Model" "to" "I") k_X12_next_fieldLink_RX12_297_SRModel_to_I) dX12_next_132 rfl ?_
      refine lv_aload_n hx hb dX12_next_135 rfl (lv_at hl 0 rfl) ?_
      refine rG_11 (v := (p18.2.i 11)) hx hb hts i_X12_next_X12 hown hK hP (hts (.fieldLink RX12 304 "StatementRules2Model" "from" "I") k_X12_next_fieldLink_RX12_304_SRModel_from_I) dX12_next_136 rfl ?_
      refine lv_isub hx hb dX12_next_139 ?_
      refine lv_bipush (v := 9) hx hb dX12_next_140 (by decide) ?_
      refine lv_icmp_ge (tgt := 167) hx hb dX12_next_142 (by decide) (fun c22 => ?_) (fun c22 => ?_)
      ·
        replace hf := (if_pos c22).symm.trans hf
        refine lv_aload_n hx hb dX12_next_167 rfl (lv_at hl 0 rfl) ?_
        refine rG_14 (v := (p18.2.i 14)) hx hb hts i_X12_next_X12 hown hK hP (hts (.fieldLink RX12 314 "StatementRules2Model" "number" "I") k_X12_next_fieldLink_RX12_314_SRModel_number_I) dX12_next_168 rfl ?_
        refine rP_14 hx hb hts i_X12_next_X12 hown hK hP hD hS (hts (.fieldLink RX12 314 "StatementRules2Model" "number" "I") k_X12_next_fieldLink_RX12_314_SRModel_number_I) dX12_next_171 (fun H locs hP hD hS => ?_)
        refine lv_aload_n hx hb dX12_next_174 rfl (lv_at hl 0 rfl) ?_
        refine lv_dup hx hb dX12_next_175 rfl ?_
        refine rG_12 (v := (p18.2.i 12)) hx hb hts i_X12_next_X12 hown hK hP (hts (.fieldLink RX12 297 "StatementRules2Model" "to" "I") k_X12_next_fieldLink_RX12_297_SRModel_to_I) dX12_next_176 rfl ?_
        refine lv_iconst (v := 1) hx hb dX12_next_179 (by decide) ?_
        refine lv_iadd hx hb dX12_next_180 ?_
        refine rP_12 hx hb hts i_X12_next_X12 hown hK hP hD hS (hts (.fieldLink RX12 297 "StatementRules2Model" "to" "I") k_X12_next_fieldLink_RX12_297_SRModel_to_I) dX12_next_181 (fun H locs hP hD hS => ?_)
        refine lv_goto (tgt := 116) hx hb dX12_next_184 (by decide) ?_
        exact ih (RS.setI (RS.setI p18.2 14 (p18.2.i 14)) 12 ((p18.2.i 12) + 1)) _ _ _ hf hP hD hS (lv_sub hl [0] rfl)
      ·
        replace hf := (if_neg c22).symm.trans hf
        refine lv_bipush (v := 10) hx hb dX12_next_145 (by decide) ?_
        refine lv_aload_n hx hb dX12_next_147 rfl (lv_at hl 0 rfl) ?_
        refine rG_14 (v := (p18.2.i 14)) hx hb hts i_X12_next_X12 hown hK hP (hts (.fieldLink RX12 314 "StatementRules2Model" "number" "I") k_X12_next_fieldLink_RX12_314_SRModel_number_I) dX12_next_148 rfl ?_
        refine lv_imul hx hb dX12_next_151 ?_
        refine lv_aload_n hx hb dX12_next_152 rfl (lv_at hl 0 rfl) ?_
        refine lv_aload_n hx hb dX12_next_153 rfl (lv_at hl 0 rfl) ?_
        refine rG_12 (v := (p18.2.i 12)) hx hb hts i_X12_next_X12 hown hK hP (hts (.fieldLink RX12 297 "StatementRules2Model" "to" "I") k_X12_next_fieldLink_RX12_297_SRModel_to_I) dX12_next_154 rfl ?_
        obtain ⟨p23, hcp23, hf⟩ := hf_bind hf
        have hFc := r_free hD hS hA
        refine va_calli (va_runV (As := [.int (p18.2.i 12)]) (rest := [.int (10 * (p18.2.i 14)), .ref Q.h0]) ⟨hx, hb, hml, hown, hts⟩ (c_X12_at l dC dI _ Q N p18.2 (p18.2.i 12) p23 hcp23) (cwV 1 hts hX12_next_X12_at_v300 rfl rfl rfl (by decide +kernel) ⟨Nat.le_of_ble_eq_true rfl, Nat.le_of_ble_eq_true rfl⟩) ⟨zPre.blind, va_recv hK hP (ci := 11) (q0 := 0) rfl rfl, zPre.go hZ hP hK hD⟩ rfl rfl hl.1 rfl (lv_room (Nat.le_of_ble_eq_true rfl)) dX12_next_157 ⟨Nat.le_of_ble_eq_true rfl, Nat.le_of_ble_eq_true rfl⟩) hS (fun q _ h => hFc q h) hFc (fun r24 u9 t9 H1 locs ht hvm hw hB hz1 hk1 hS => ?_)
        obtain ⟨hP, hK1, hD1⟩ := hB
        rw [ht] at hP
        have hD := hD1.weaken (fun _ _ _ h => hFc _ h)
        generalize H1 = H at hP hS ⊢
        obtain rfl : r24 = p23.1 := hw
        refine lv_iadd hx hb dX12_next_160 ?_
        refine lv_bipush (v := 48) hx hb dX12_next_161 (by decide) ?_
        refine lv_isub hx hb dX12_next_163 ?_
        refine lv_goto (tgt := 171) hx hb dX12_next_164 (by decide) ?_
        refine rP_14 hx hb hts i_X12_next_X12 hown hK hP hD hS (hts (.fieldLink RX12 314 "StatementRules2Model" "number" "I") k_X12_next_fieldLink_RX12_314_SRModel_number_I) dX12_next_171 (fun H locs hP hD hS => ?_)
        refine lv_aload_n hx hb dX12_next_174 rfl (lv_at hl 0 rfl) ?_
        refine lv_dup hx hb dX12_next_175 rfl ?_
        refine rG_12 (v := (p23.2.i 12)) hx hb hts i_X12_next_X12 hown hK hP (hts (.fieldLink RX12 297 "StatementRules2Model" "to" "I") k_X12_next_fieldLink_RX12_297_SRModel_to_I) dX12_next_176 rfl ?_
        refine lv_iconst (v := 1) hx hb dX12_next_179 (by decide) ?_
        refine lv_iadd hx hb dX12_next_180 ?_
        refine rP_12 hx hb hts i_X12_next_X12 hown hK hP hD hS (hts (.fieldLink RX12 297 "StatementRules2Model" "to" "I") k_X12_next_fieldLink_RX12_297_SRModel_to_I) dX12_next_181 (fun H locs hP hD hS => ?_)
        refine lv_goto (tgt := 116) hx hb dX12_next_184 (by decide) ?_
        exact ih (RS.setI (RS.setI p23.2 14 (((10 * (p18.2.i 14)) + p23.1) - 48)) 12 ((p23.2.i 12) + 1)) _ _ _ hf hP hD hS (lv_sub hl [0] rfl)
set_option maxHeartbeats 4000000 in
set_option maxRecDepth 100000 in
theorem j_X12_next_68 {p : Program} {e : Env} {s : State} {m : MethodId} {args : Array Value} {below : List Frame} {meth : Method} {c : Code} {A : Nat → Prop} (l : Launch) (dC : Nat → ClassId) (dI : Nat → Nat → Nat) (Q : RQ) (N : Nat) (R : RS) (hx : p.tables.exec = Jvm.exec) (hb : c.code = cX12_next) (hr : meth.sig.returnType = none) (hml : c.maxLocals = 2) (hown : s.vm.findClass RX12 = some m.cls) (hts : ∀ w ∈ wzX12_next, w.before args s = true) (hlocks : meth.locks = false) (hZ : zAMB s) (hA : ∀ q : Nat, s.heap.size ≤ q → A q) (hK : va_K (dC, dI) vwCl (rT Q) s) : ∀ (σ : RS) (H : Heap) (locs : List Loc) (ls : Array Slot), f_X12_next_68 N σ = some R → va_P (dC, dI) vwCl (rW Q σ) H → va_D A (rW Q σ) → va_S A s.heap H locs → lv_has ls 2 [(0, .ref Q.h0)] → W p l e ({ frames := 3, cells := 0, slots := 0, locals := 180 }) s m args below meth c H locs 0 0 (MQ below (va_Qv (fun (_ : Unit) => True) (fun (_ : Unit) (t : State) => zPost dC dI A (rW Q R) (rT Q) t) A) args s 0 0 A) (F0 m 68 ls []) := by
  intro σ  H locs ls hf hP hD hS hl
  unfold f_X12_next_68 at hf
  refine lv_aload_n hx hb dX12_next_68 rfl (lv_at hl 0 rfl) ?_
  refine lv_aload_n hx hb dX12_next_69 rfl (lv_at hl 0 rfl) ?_
  refine rG_12 (v := (σ.i 12)) hx hb hts i_X12_next_X12 hown hK hP (hts (.fieldLink RX12 297 "StatementRules2Model" "to" "I") k_X12_next_fieldLink_RX12_297_SRModel_to_I) dX12_next_70 rfl ?_
  refine rP_11 hx hb hts i_X12_next_X12 hown hK hP hD hS (hts (.fieldLink RX12 304 "StatementRules2Model" "from" "I") k_X12_next_fieldLink_RX12_304_SRModel_from_I) dX12_next_73 (fun H locs hP hD hS => ?_)
  refine lv_aload_n hx hb dX12_next_76 rfl (lv_at hl 0 rfl) ?_
  refine lv_aload_n hx hb dX12_next_77 rfl (lv_at hl 0 rfl) ?_
  refine rG_11 (v := (σ.i 12)) hx hb hts i_X12_next_X12 hown hK hP (hts (.fieldLink RX12 304 "StatementRules2Model" "from" "I") k_X12_next_fieldLink_RX12_304_SRModel_from_I) dX12_next_78 rfl ?_
  obtain ⟨p3, hcp3, hf⟩ := hf_bind hf
  have hFc := r_free hD hS hA
  refine va_calli (va_runV (As := [.int (σ.i 12)]) (rest := []) ⟨hx, hb, hml, hown, hts⟩ (c_X12_at l dC dI _ Q N (RS.setI σ 11 (σ.i 12)) (σ.i 12) p3 hcp3) (cwV 1 hts hX12_next_X12_at_v300 rfl rfl rfl (by decide +kernel) ⟨Nat.le_of_ble_eq_true rfl, Nat.le_of_ble_eq_true rfl⟩) ⟨zPre.blind, va_recv hK hP (ci := 11) (q0 := 0) rfl rfl, zPre.go hZ hP hK hD⟩ rfl rfl hl.1 rfl (lv_room (Nat.le_of_ble_eq_true rfl)) dX12_next_81 ⟨Nat.le_of_ble_eq_true rfl, Nat.le_of_ble_eq_true rfl⟩) hS (fun q _ h => hFc q h) hFc (fun r4 u9 t9 H1 locs ht hvm hw hB hz1 hk1 hS => ?_)
  obtain ⟨hP, hK1, hD1⟩ := hB
  rw [ht] at hP
  have hD := hD1.weaken (fun _ _ _ h => hFc _ h)
  generalize H1 = H at hP hS ⊢
  obtain rfl : r4 = p3.1 := hw
  refine lv_istore_n (lv' := [(1, .int p3.1), (0, .ref Q.h0)]) hx hb dX12_next_84 rfl hl (by decide) rfl (fun ls hl => ?_)
  refine lv_aload_n hx hb dX12_next_85 rfl (lv_at hl 1 rfl) ?_
  refine rG_11 (v := (p3.2.i 11)) hx hb hts i_X12_next_X12 hown hK hP (hts (.fieldLink RX12 304 "StatementRules2Model" "from" "I") k_X12_next_fieldLink_RX12_304_SRModel_from_I) dX12_next_86 rfl ?_
  refine lv_aload_n hx hb dX12_next_89 rfl (lv_at hl 1 rfl) ?_
  refine rG_2 (v := (p3.2.i 2)) hx hb hts i_X12_next_X12 hown hK hP (hts (.fieldLink RX12 276 "StatementRules2Model" "taped" "I") k_X12_next_fieldLink_RX12_276_SRModel_taped_I) dX12_next_90 rfl ?_
  refine lv_icmp_ne (tgt := 104) hx hb dX12_next_93 (by decide) (fun c5 => ?_) (fun c5 => ?_)
  ·
    replace hf := (if_neg c5).symm.trans hf
    refine lv_iload_n hx hb dX12_next_104 rfl (lv_at hl 0 rfl) ?_
    obtain ⟨p6, hcp6, hf⟩ := hf_bind hf
    have hFc := r_free hD hS hA
    refine va_calli (va_runS (As := [.int p3.1]) (rest := []) ⟨hx, hb, hml, hown, hts⟩ (c_X12_isDigit l dC dI _ Q N p3.2 p3.1 p6 hcp6) (va_cwS 1 hts hX12_next_X12_isDigit_s310 rfl rfl rfl (by decide +kernel) ⟨Nat.le_of_ble_eq_true rfl, Nat.le_of_ble_eq_true rfl⟩) ⟨zPre.blind, zPre.go hZ hP hK hD⟩ rfl rfl hl.1 rfl (lv_room (Nat.le_of_ble_eq_true rfl)) dX12_next_105 ⟨Nat.le_of_ble_eq_true rfl, Nat.le_of_ble_eq_true rfl⟩) hS (fun q _ h => hFc q h) hFc (fun r7 u9 t9 H1 locs ht hvm hw hB hz1 hk1 hS => ?_)
    obtain ⟨hP, hK1, hD1⟩ := hB
    rw [ht] at hP
    have hD := hD1.weaken (fun _ _ _ h => hFc _ h)
    generalize H1 = H at hP hS ⊢
    obtain rfl : r7 = p6.1 := hw
    refine lv_if_eq (tgt := 214) hx hb dX12_next_108 (by decide) (fun c8 => ?_) (fun c8 => ?_)
    ·
      replace hf := (if_pos c8).symm.trans hf
      refine lv_iload_n hx hb dX12_next_214 rfl (lv_at hl 0 rfl) ?_
      obtain ⟨p9, hcp9, hf⟩ := hf_bind hf
      have hFc := r_free hD hS hA
      refine va_calli (va_runS (As := [.int p3.1]) (rest := []) ⟨hx, hb, hml, hown, hts⟩ (c_X12_isLetter l dC dI _ Q N p6.2 p3.1 p9 hcp9) (va_cwS 1 hts hX12_next_X12_isLetter_s317 rfl rfl rfl (by decide +kernel) ⟨Nat.le_of_ble_eq_true rfl, Nat.le_of_ble_eq_true rfl⟩) ⟨zPre.blind, zPre.go hZ hP hK hD⟩ rfl rfl hl.1 rfl (lv_room (Nat.le_of_ble_eq_true rfl)) dX12_next_215 ⟨Nat.le_of_ble_eq_true rfl, Nat.le_of_ble_eq_true rfl⟩) hS (fun q _ h => hFc q h) hFc (fun r10 u9 t9 H1 locs ht hvm hw hB hz1 hk1 hS => ?_)
      obtain ⟨hP, hK1, hD1⟩ := hB
      rw [ht] at hP
      have hD := hD1.weaken (fun _ _ _ h => hFc _ h)
      generalize H1 = H at hP hS ⊢
      obtain rfl : r10 = p9.1 := hw
      refine lv_if_eq (tgt := 228) hx hb dX12_next_218 (by decide) (fun c11 => ?_) (fun c11 => ?_)
      ·
        replace hf := (if_pos c11).symm.trans hf
        refine lv_aload_n hx hb dX12_next_228 rfl (lv_at hl 1 rfl) ?_
        refine lv_iload_n hx hb dX12_next_229 rfl (lv_at hl 0 rfl) ?_
        obtain ⟨p12, hcp12, hf⟩ := hf_bind hf
        have hFc := r_free hD hS hA
        refine va_callv (va_runV (As := [.int p3.1]) (rest := []) ⟨hx, hb, hml, hown, hts⟩ (c_X12_readSign l dC dI _ Q N p9.2 p3.1 p12 hcp12) (cwV 1 hts hX12_next_X12_readSign_v323 rfl rfl rfl (by decide +kernel) ⟨Nat.le_of_ble_eq_true rfl, Nat.le_of_ble_eq_true rfl⟩) ⟨zPre.blind, va_recv hK hP (ci := 11) (q0 := 0) rfl rfl, zPre.go hZ hP hK hD⟩ rfl rfl hl.1 rfl (lv_room (Nat.le_of_ble_eq_true rfl)) dX12_next_230 ⟨Nat.le_of_ble_eq_true rfl, Nat.le_of_ble_eq_true rfl⟩) hS (fun q _ h => hFc q h) hFc (fun u9 t9 H1 locs ht hvm hw hB hz1 hk1 hS => ?_)
        obtain ⟨hP, hK1, hD1⟩ := hB
        rw [ht] at hP
        have hD := hD1.weaken (fun _ _ _ h => hFc _ h)
        generalize H1 = H at hP hS ⊢
        obtain rfl := Option.some.inj hf
        exact W.vret hx hb hr (fun t ht hW => ⟨⟨(), rfl, trivial, by rw [ht]; exact hP, va_K.moved hW.alike hK, hD⟩, hS.F ht⟩) hS.2.2 dX12_next_233
      ·
        replace hf := (if_neg c11).symm.trans hf
        refine lv_aload_n hx hb dX12_next_221 rfl (lv_at hl 1 rfl) ?_
        obtain ⟨p14, hcp14, hf⟩ := hf_bind hf
        have hFc := r_free hD hS hA
        refine va_callv (va_runV (As := []) (rest := []) ⟨hx, hb, hml, hown, hts⟩ (c_X12_readName l dC dI _ Q N p9.2 p14 hcp14) (cwV 0 hts hX12_next_X12_readName_v320 rfl rfl rfl (by decide +kernel) ⟨Nat.le_of_ble_eq_true rfl, Nat.le_of_ble_eq_true rfl⟩) ⟨zPre.blind, va_recv hK hP (ci := 11) (q0 := 0) rfl rfl, zPre.go hZ hP hK hD⟩ rfl rfl hl.1 rfl (lv_room (Nat.le_of_ble_eq_true rfl)) dX12_next_222 ⟨Nat.le_of_ble_eq_true rfl, Nat.le_of_ble_eq_true rfl⟩) hS (fun q _ h => hFc q h) hFc (fun u9 t9 H1 locs ht hvm hw hB hz1 hk1 hS => ?_)
        obtain ⟨hP, hK1, hD1⟩ := hB
        rw [ht] at hP
        have hD := hD1.weaken (fun _ _ _ h => hFc _ h)
        generalize H1 = H at hP hS ⊢
        refine lv_goto (tgt := 233) hx hb dX12_next_225 (by decide) ?_
        obtain rfl := Option.some.inj hf
        exact W.vret hx hb hr (fun t ht hW => ⟨⟨(), rfl, trivial, by rw [ht]; exact hP, va_K.moved hW.alike hK, hD⟩, hS.F ht⟩) hS.2.2 dX12_next_233
    ·
      replace hf := (if_neg c8).symm.trans hf
      refine lv_aload_n hx hb dX12_next_111 rfl (lv_at hl 1 rfl) ?_
      refine lv_iconst (v := 0) hx hb dX12_next_112 (by decide) ?_
      refine rP_14 hx hb hts i_X12_next_X12 hown hK hP hD hS (hts (.fieldLink RX12 314 "StatementRules2Model" "number" "I") k_X12_next_fieldLink_RX12_314_SRModel_number_I) dX12_next_113 (fun H locs hP hD hS => ?_)
      exact j_X12_next_116 l dC dI Q N R hx hb hr hml hown hts hlocks hZ hA hK N (RS.setI p6.2 14 0) _ _ _ hf hP hD hS (lv_sub hl [1] rfl)
  ·
    replace hf := (if_pos c5).symm.trans hf
    refine lv_aload_n hx hb dX12_next_96 rfl (lv_at hl 1 rfl) ?_
    refine lv_iconst (v := 0) hx hb dX12_next_97 (by decide) ?_
    refine rP_10 hx hb hts i_X12_next_X12 hown hK hP hD hS (hts (.fieldLink RX12 307 "StatementRules2Model" "tok" "I") k_X12_next_fieldLink_RX12_307_SRModel_tok_I) dX12_next_98 (fun H locs hP hD hS => ?_)
    refine lv_goto (tgt := 233) hx hb dX12_next_101 (by decide) ?_
    obtain rfl := Option.some.inj hf
    exact W.vret hx hb hr (fun t ht hW => ⟨⟨(), rfl, trivial, by rw [ht]; exact hP, va_K.moved hW.alike hK, hD⟩, hS.F ht⟩) hS.2.2 dX12_next_233
set_option maxHeartbeats 4000000 in
set_option maxRecDepth 100000 in
theorem j_X12_next_18 {p : Program} {e : Env} {s : State} {m : MethodId} {args : Array Value} {below : List Frame} {meth : Method} {c : Code} {A : Nat → Prop} (l : Launch) (dC : Nat → ClassId) (dI : Nat → Nat → Nat) (Q : RQ) (N : Nat) (R : RS) (hx : p.tables.exec = Jvm.exec) (hb : c.code = cX12_next) (hr : meth.sig.returnType = none) (hml : c.maxLocals = 2) (hown : s.vm.findClass RX12 = some m.cls) (hts : ∀ w ∈ wzX12_next, w.before args s = true) (hlocks : meth.locks = false) (hZ : zAMB s) (hA : ∀ q : Nat, s.heap.size ≤ q → A q) (hK : va_K (dC, dI) vwCl (rT Q) s) : ∀ (n9 : Nat), ∀ (σ : RS) (H : Heap) (locs : List Loc) (ls : Array Slot), f_X12_next_18 N n9 σ = some R → va_P (dC, dI) vwCl (rW Q σ) H → va_D A (rW Q σ) → va_S A s.heap H locs → lv_has ls 2 [(0, .ref Q.h0)] → W p l e ({ frames := 3, cells := 0, slots := 0, locals := 180 }) s m args below meth c H locs 0 0 (MQ below (va_Qv (fun (_ : Unit) => True) (fun (_ : Unit) (t : State) => zPost dC dI A (rW Q R) (rT Q) t) A) args s 0 0 A) (F0 m 18 ls []) := by
  intro n9
  induction n9 with
  | zero => intro σ  H locs ls hf; exact absurd hf (by intro h9; cases h9)
  | succ n9 ih =>
    intro σ  H locs ls hf hP hD hS hl
    replace hf : b_X12_next_18 N (f_X12_next_18 N n9) σ  = some R := hf
    unfold b_X12_next_18 at hf
    refine lv_aload_n hx hb dX12_next_18 rfl (lv_at hl 0 rfl) ?_
    refine rG_12 (v := (σ.i 12)) hx hb hts i_X12_next_X12 hown hK hP (hts (.fieldLink RX12 297 "StatementRules2Model" "to" "I") k_X12_next_fieldLink_RX12_297_SRModel_to_I) dX12_next_19 rfl ?_
    refine lv_aload_n hx hb dX12_next_22 rfl (lv_at hl 0 rfl) ?_
    refine rG_2 (v := (σ.i 2)) hx hb hts i_X12_next_X12 hown hK hP (hts (.fieldLink RX12 276 "StatementRules2Model" "taped" "I") k_X12_next_fieldLink_RX12_276_SRModel_taped_I) dX12_next_23 rfl ?_
    refine lv_icmp_ge (tgt := 68) hx hb dX12_next_26 (by decide) (fun c2 => ?_) (fun c2 => ?_)
    ·
      replace hf := (if_pos c2).symm.trans hf
      exact j_X12_next_68 l dC dI Q N R hx hb hr hml hown hts hlocks hZ hA hK σ _ _ _ hf hP hD hS (lv_sub hl [0] rfl)
    ·
      replace hf := (if_neg c2).symm.trans hf
      refine lv_aload_n hx hb dX12_next_29 rfl (lv_at hl 0 rfl) ?_
      refine lv_aload_n hx hb dX12_next_30 rfl (lv_at hl 0 rfl) ?_
      refine rG_12 (v := (σ.i 12)) hx hb hts i_X12_next_X12 hown hK hP (hts (.fieldLink RX12 297 "StatementRules2Model" "to" "I") k_X12_next_fieldLink_RX12_297_SRModel_to_I) dX12_next_31 rfl ?_
      obtain ⟨p25, hcp25, hf⟩ := hf_bind hf
      have hFc := r_free hD hS hA
      refine va_calli (va_runV (As := [.int (σ.i 12)]) (rest := []) ⟨hx, hb, hml, hown, hts⟩ (c_X12_at l dC dI _ Q N σ (σ.i 12) p25 hcp25) (cwV 1 hts hX12_next_X12_at_v300 rfl rfl rfl (by decide +kernel) ⟨Nat.le_of_ble_eq_true rfl, Nat.le_of_ble_eq_true rfl⟩) ⟨zPre.blind, va_recv hK hP (ci := 11) (q0 := 0) rfl rfl, zPre.go hZ hP hK hD⟩ rfl rfl hl.1 rfl (lv_room (Nat.le_of_ble_eq_true rfl)) dX12_next_34 ⟨Nat.le_of_ble_eq_true rfl, Nat.le_of_ble_eq_true rfl⟩) hS (fun q _ h => hFc q h) hFc (fun r26 u9 t9 H1 locs ht hvm hw hB hz1 hk1 hS => ?_)
      obtain ⟨hP, hK1, hD1⟩ := hB
      rw [ht] at hP
      have hD := hD1.weaken (fun _ _ _ h => hFc _ h)
      generalize H1 = H at hP hS ⊢
      obtain rfl : r26 = p25.1 := hw
      refine lv_bipush (v := 32) hx hb dX12_next_37 (by decide) ?_
      refine lv_icmp_eq (tgt := 55) hx hb dX12_next_39 (by decide) (fun c27 => ?_) (fun c27 => ?_)
      ·
        replace hf := (if_pos c27).symm.trans hf
        refine lv_aload_n hx hb dX12_next_55 rfl (lv_at hl 0 rfl) ?_
        refine lv_dup hx hb dX12_next_56 rfl ?_
        refine rG_12 (v := (p25.2.i 12)) hx hb hts i_X12_next_X12 hown hK hP (hts (.fieldLink RX12 297 "StatementRules2Model" "to" "I") k_X12_next_fieldLink_RX12_297_SRModel_to_I) dX12_next_57 rfl ?_
        refine lv_iconst (v := 1) hx hb dX12_next_60 (by decide) ?_
        refine lv_iadd hx hb dX12_next_61 ?_
        refine rP_12 hx hb hts i_X12_next_X12 hown hK hP hD hS (hts (.fieldLink RX12 297 "StatementRules2Model" "to" "I") k_X12_next_fieldLink_RX12_297_SRModel_to_I) dX12_next_62 (fun H locs hP hD hS => ?_)
        refine lv_goto (tgt := 18) hx hb dX12_next_65 (by decide) ?_
        exact ih (RS.setI p25.2 12 ((p25.2.i 12) + 1)) _ _ _ hf hP hD hS (lv_sub hl [0] rfl)
      ·
        replace hf := (if_neg c27).symm.trans hf
        refine lv_aload_n hx hb dX12_next_42 rfl (lv_at hl 0 rfl) ?_
        refine lv_aload_n hx hb dX12_next_43 rfl (lv_at hl 0 rfl) ?_
        refine rG_12 (v := (p25.2.i 12)) hx hb hts i_X12_next_X12 hown hK hP (hts (.fieldLink RX12 297 "StatementRules2Model" "to" "I") k_X12_next_fieldLink_RX12_297_SRModel_to_I) dX12_next_44 rfl ?_
        obtain ⟨p28, hcp28, hf⟩ := hf_bind hf
        have hFc := r_free hD hS hA
        refine va_calli (va_runV (As := [.int (p25.2.i 12)]) (rest := []) ⟨hx, hb, hml, hown, hts⟩ (c_X12_at l dC dI _ Q N p25.2 (p25.2.i 12) p28 hcp28) (cwV 1 hts hX12_next_X12_at_v300 rfl rfl rfl (by decide +kernel) ⟨Nat.le_of_ble_eq_true rfl, Nat.le_of_ble_eq_true rfl⟩) ⟨zPre.blind, va_recv hK hP (ci := 11) (q0 := 0) rfl rfl, zPre.go hZ hP hK hD⟩ rfl rfl hl.1 rfl (lv_room (Nat.le_of_ble_eq_true rfl)) dX12_next_47 ⟨Nat.le_of_ble_eq_true rfl, Nat.le_of_ble_eq_true rfl⟩) hS (fun q _ h => hFc q h) hFc (fun r29 u9 t9 H1 locs ht hvm hw hB hz1 hk1 hS => ?_)
        obtain ⟨hP, hK1, hD1⟩ := hB
        rw [ht] at hP
        have hD := hD1.weaken (fun _ _ _ h => hFc _ h)
        generalize H1 = H at hP hS ⊢
        obtain rfl : r29 = p28.1 := hw
        refine lv_bipush (v := 10) hx hb dX12_next_50 (by decide) ?_
        refine lv_icmp_ne (tgt := 68) hx hb dX12_next_52 (by decide) (fun c30 => ?_) (fun c30 => ?_)
        ·
          replace hf := (if_neg c30).symm.trans hf
          exact j_X12_next_68 l dC dI Q N R hx hb hr hml hown hts hlocks hZ hA hK p28.2 _ _ _ hf hP hD hS (lv_sub hl [0] rfl)
        ·
          replace hf := (if_pos c30).symm.trans hf
          refine lv_aload_n hx hb dX12_next_55 rfl (lv_at hl 0 rfl) ?_
          refine lv_dup hx hb dX12_next_56 rfl ?_
          refine rG_12 (v := (p28.2.i 12)) hx hb hts i_X12_next_X12 hown hK hP (hts (.fieldLink RX12 297 "StatementRules2Model" "to" "I") k_X12_next_fieldLink_RX12_297_SRModel_to_I) dX12_next_57 rfl ?_
          refine lv_iconst (v := 1) hx hb dX12_next_60 (by decide) ?_
          refine lv_iadd hx hb dX12_next_61 ?_
          refine rP_12 hx hb hts i_X12_next_X12 hown hK hP hD hS (hts (.fieldLink RX12 297 "StatementRules2Model" "to" "I") k_X12_next_fieldLink_RX12_297_SRModel_to_I) dX12_next_62 (fun H locs hP hD hS => ?_)
          refine lv_goto (tgt := 18) hx hb dX12_next_65 (by decide) ?_
          exact ih (RS.setI p28.2 12 ((p28.2.i 12) + 1)) _ _ _ hf hP hD hS (lv_sub hl [0] rfl)
set_option maxHeartbeats 4000000 in
set_option maxRecDepth 100000 in
theorem c_X12_next (l : Launch) (dC : Nat → ClassId) (dI : Nat → Nat → Nat) (sz : Nat) (Q : RQ) (N : Nat) (σ : RS) (R : RS) (hf : f_X12_next N σ = some R) : Met l yX12_next wzX12_next ({ frames := 3, cells := 0, slots := 0, locals := 180 }) (va_Pc [.ref Q.h0] (zPre dC dI sz (rW Q σ) (rT Q))) (va_Qv (fun (_ : Unit) => True) (fun (_ : Unit) (t : State) => zPost dC dI (va_A (rW Q σ) sz) (rW Q R) (rT Q) t) (va_A (rW Q σ) sz)) 0 0 (va_A (rW Q σ) sz) := by
  refine Met.ofW (cc := cX12_next) (maxL := 2) (ret := none) (by decide) rfl ?_
  intro p e s m args below meth c s₁ B hml hv
  obtain ⟨rfl, hsz, hZ, hP, hK, hD0⟩ := hv
  have hx := B.exec
  have hb := B.bytes
  have hr := B.returns
  have hts := atoms_spec (ws := wzX12_next) B.pre
  have hown : s.vm.findClass RX12 = some m.cls := findClass_of_methodNamed B.named
  have hlocks := B.notSynchronized
  subst hsz
  have hD := hD0.self (sz := s.heap.size)
  generalize hAe : va_A (rW Q σ) s.heap.size = A at hD ⊢
  have hA : ∀ q : Nat, s.heap.size ≤ q → A q := fun q h => by rw [← hAe]; exact Or.inr h
  have hS : va_S A s.heap s.heap [] := va_S.rf
  have hl := lv_entry ([.ref Q.h0]) (n := 2) (Nat.le_of_ble_eq_true rfl)
  rw [lg_entry_eq]
  generalize (lg_sl ([.ref Q.h0]) ++ List.replicate (2 - (lg_sl ([.ref Q.h0])).length) Slot.unset).toArray = ls at hl ⊢
  have hl : lv_has ls 2 [(0, .ref Q.h0)] := hl
  unfold f_X12_next at hf
  refine lv_aload_n hx hb dX12_next_0 rfl (lv_at hl 0 rfl) ?_
  refine rG_15 (v := (σ.i 15)) hx hb hts i_X12_next_X12 hown hK hP (hts (.fieldLink RX12 291 "StatementRules2Model" "fault" "I") k_X12_next_fieldLink_RX12_291_SRModel_fault_I) dX12_next_1 rfl ?_
  refine lv_if_eq (tgt := 8) hx hb dX12_next_4 (by decide) (fun c1 => ?_) (fun c1 => ?_)
  ·
    replace hf := (if_pos c1).symm.trans hf
    refine lv_aload_n hx hb dX12_next_8 rfl (lv_at hl 0 rfl) ?_
    refine lv_dup hx hb dX12_next_9 rfl ?_
    refine rG_17 (v := (σ.i 17)) hx hb hts i_X12_next_X12 hown hK hP (hts (.fieldLink RX12 294 "StatementRules2Model" "tokens" "I") k_X12_next_fieldLink_RX12_294_SRModel_tokens_I) dX12_next_10 rfl ?_
    refine lv_iconst (v := 1) hx hb dX12_next_13 (by decide) ?_
    refine lv_iadd hx hb dX12_next_14 ?_
    refine rP_17 hx hb hts i_X12_next_X12 hown hK hP hD hS (hts (.fieldLink RX12 294 "StatementRules2Model" "tokens" "I") k_X12_next_fieldLink_RX12_294_SRModel_tokens_I) dX12_next_15 (fun H locs hP hD hS => ?_)
    exact j_X12_next_18 l dC dI Q N R hx hb hr hml hown hts hlocks hZ hA hK N (RS.setI σ 17 ((σ.i 17) + 1)) _ _ _ hf hP hD hS (lv_sub hl [0] rfl)
  ·
    replace hf := (if_neg c1).symm.trans hf
    obtain rfl := Option.some.inj hf
    exact W.vret hx hb hr (fun t ht hW => ⟨⟨(), rfl, trivial, by rw [ht]; exact hP, va_K.moved hW.alike hK, hD⟩, hS.F ht⟩) hS.2.2 dX12_next_7
theorem k_X12_fail_fieldLink_RX12_291_SRModel_fault_I : Cond.fieldLink RX12 291 "StatementRules2Model" "fault" "I" ∈ wzX12_fail := List.mem_cons_of_mem _ (List.mem_append_left _ (List.mem_of_getElem? (i := 0) rfl))
theorem i_X12_fail_X12 : ∀ w ∈ wsX120, w ∈ wzX12_fail := fun _ h => List.mem_cons_of_mem _ (List.mem_append_right _ (List.mem_append_left _ (h)))
theorem k_X12_fail_fieldLink_RX12_331_SRModel_faultAt_I : Cond.fieldLink RX12 331 "StatementRules2Model" "faultAt" "I" ∈ wzX12_fail := List.mem_cons_of_mem _ (List.mem_append_left _ (List.mem_of_getElem? (i := 1) rfl))
set_option maxHeartbeats 4000000 in
set_option maxRecDepth 100000 in
theorem c_X12_fail (l : Launch) (dC : Nat → ClassId) (dI : Nat → Nat → Nat) (sz : Nat) (Q : RQ) (N : Nat) (σ : RS) (x1 : Int32) (x2 : Int32) (R : RS) (hf : f_X12_fail N σ x1 x2 = some R) : Met l yX12_fail wzX12_fail ({ frames := 1, cells := 0, slots := 0, locals := 60 }) (va_Pc [.ref Q.h0, .int x1, .int x2] (zPre dC dI sz (rW Q σ) (rT Q))) (va_Qv (fun (_ : Unit) => True) (fun (_ : Unit) (t : State) => zPost dC dI (va_A (rW Q σ) sz) (rW Q R) (rT Q) t) (va_A (rW Q σ) sz)) 0 0 (va_A (rW Q σ) sz) := by
  refine Met.ofW (cc := cX12_fail) (maxL := 3) (ret := none) (by decide) rfl ?_
  intro p e s m args below meth c s₁ B hml hv
  obtain ⟨rfl, hsz, hZ, hP, hK, hD0⟩ := hv
  have hx := B.exec
  have hb := B.bytes
  have hr := B.returns
  have hts := atoms_spec (ws := wzX12_fail) B.pre
  have hown : s.vm.findClass RX12 = some m.cls := findClass_of_methodNamed B.named
  have hlocks := B.notSynchronized
  subst hsz
  have hD := hD0.self (sz := s.heap.size)
  generalize hAe : va_A (rW Q σ) s.heap.size = A at hD ⊢
  have hA : ∀ q : Nat, s.heap.size ≤ q → A q := fun q h => by rw [← hAe]; exact Or.inr h
  have hS : va_S A s.heap s.heap [] := va_S.rf
  have hl := lv_entry ([.ref Q.h0, .int x1, .int x2]) (n := 3) (Nat.le_of_ble_eq_true rfl)
  rw [lg_entry_eq]
  generalize (lg_sl ([.ref Q.h0, .int x1, .int x2]) ++ List.replicate (3 - (lg_sl ([.ref Q.h0, .int x1, .int x2])).length) Slot.unset).toArray = ls at hl ⊢
  have hl : lv_has ls 3 [(0, .ref Q.h0), (1, .int x1), (2, .int x2)] := hl
  unfold f_X12_fail at hf
  refine lv_aload_n hx hb dX12_fail_0 rfl (lv_at hl 0 rfl) ?_
  refine rG_15 (v := (σ.i 15)) hx hb hts i_X12_fail_X12 hown hK hP (hts (.fieldLink RX12 291 "StatementRules2Model" "fault" "I") k_X12_fail_fieldLink_RX12_291_SRModel_fault_I) dX12_fail_1 rfl ?_
  refine lv_if_ne (tgt := 17) hx hb dX12_fail_4 (by decide) (fun c1 => ?_) (fun c1 => ?_)
  ·
    replace hf := (if_neg c1).symm.trans hf
    obtain rfl := Option.some.inj hf
    exact W.vret hx hb hr (fun t ht hW => ⟨⟨(), rfl, trivial, by rw [ht]; exact hP, va_K.moved hW.alike hK, hD⟩, hS.F ht⟩) hS.2.2 dX12_fail_17
  ·
    replace hf := (if_pos c1).symm.trans hf
    refine lv_aload_n hx hb dX12_fail_7 rfl (lv_at hl 0 rfl) ?_
    refine lv_iload_n hx hb dX12_fail_8 rfl (lv_at hl 1 rfl) ?_
    refine rP_15 hx hb hts i_X12_fail_X12 hown hK hP hD hS (hts (.fieldLink RX12 291 "StatementRules2Model" "fault" "I") k_X12_fail_fieldLink_RX12_291_SRModel_fault_I) dX12_fail_9 (fun H locs hP hD hS => ?_)
    refine lv_aload_n hx hb dX12_fail_12 rfl (lv_at hl 0 rfl) ?_
    refine lv_iload_n hx hb dX12_fail_13 rfl (lv_at hl 2 rfl) ?_
    refine rP_16 hx hb hts i_X12_fail_X12 hown hK hP hD hS (hts (.fieldLink RX12 331 "StatementRules2Model" "faultAt" "I") k_X12_fail_fieldLink_RX12_331_SRModel_faultAt_I) dX12_fail_14 (fun H locs hP hD hS => ?_)
    obtain rfl := Option.some.inj hf
    exact W.vret hx hb hr (fun t ht hW => ⟨⟨(), rfl, trivial, by rw [ht]; exact hP, va_K.moved hW.alike hK, hD⟩, hS.F ht⟩) hS.2.2 dX12_fail_17
theorem k_X12_note_fieldLink_RX12_291_SRModel_fault_I : Cond.fieldLink RX12 291 "StatementRules2Model" "fault" "I" ∈ wzX12_note := List.mem_cons_of_mem _ (List.mem_append_left _ (List.mem_of_getElem? (i := 0) rfl))
theorem i_X12_note_X12 : ∀ w ∈ wsX120, w ∈ wzX12_note := fun _ h => List.mem_cons_of_mem _ (List.mem_append_right _ (List.mem_append_left _ (h)))
theorem k_X12_note_fieldLink_RX12_334_SRModel_late_I : Cond.fieldLink RX12 334 "StatementRules2Model" "late" "I" ∈ wzX12_note := List.mem_cons_of_mem _ (List.mem_append_left _ (List.mem_of_getElem? (i := 1) rfl))
set_option maxHeartbeats 4000000 in
set_option maxRecDepth 100000 in
theorem c_X12_note (l : Launch) (dC : Nat → ClassId) (dI : Nat → Nat → Nat) (sz : Nat) (Q : RQ) (N : Nat) (σ : RS) (x1 : Int32) (R : RS) (hf : f_X12_note N σ x1 = some R) : Met l yX12_note wzX12_note ({ frames := 1, cells := 0, slots := 0, locals := 60 }) (va_Pc [.ref Q.h0, .int x1] (zPre dC dI sz (rW Q σ) (rT Q))) (va_Qv (fun (_ : Unit) => True) (fun (_ : Unit) (t : State) => zPost dC dI (va_A (rW Q σ) sz) (rW Q R) (rT Q) t) (va_A (rW Q σ) sz)) 0 0 (va_A (rW Q σ) sz) := by
  refine Met.ofW (cc := cX12_note) (maxL := 2) (ret := none) (by decide) rfl ?_
  intro p e s m args below meth c s₁ B hml hv
  obtain ⟨rfl, hsz, hZ, hP, hK, hD0⟩ := hv
  have hx := B.exec
  have hb := B.bytes
  have hr := B.returns
  have hts := atoms_spec (ws := wzX12_note) B.pre
  have hown : s.vm.findClass RX12 = some m.cls := findClass_of_methodNamed B.named
  have hlocks := B.notSynchronized
  subst hsz
  have hD := hD0.self (sz := s.heap.size)
  generalize hAe : va_A (rW Q σ) s.heap.size = A at hD ⊢
  have hA : ∀ q : Nat, s.heap.size ≤ q → A q := fun q h => by rw [← hAe]; exact Or.inr h
  have hS : va_S A s.heap s.heap [] := va_S.rf
  have hl := lv_entry ([.ref Q.h0, .int x1]) (n := 2) (Nat.le_of_ble_eq_true rfl)
  rw [lg_entry_eq]
  generalize (lg_sl ([.ref Q.h0, .int x1]) ++ List.replicate (2 - (lg_sl ([.ref Q.h0, .int x1])).length) Slot.unset).toArray = ls at hl ⊢
  have hl : lv_has ls 2 [(0, .ref Q.h0), (1, .int x1)] := hl
  unfold f_X12_note at hf
  refine lv_aload_n hx hb dX12_note_0 rfl (lv_at hl 0 rfl) ?_
  refine rG_15 (v := (σ.i 15)) hx hb hts i_X12_note_X12 hown hK hP (hts (.fieldLink RX12 291 "StatementRules2Model" "fault" "I") k_X12_note_fieldLink_RX12_291_SRModel_fault_I) dX12_note_1 rfl ?_
  refine lv_if_ne (tgt := 19) hx hb dX12_note_4 (by decide) (fun c1 => ?_) (fun c1 => ?_)
  ·
    replace hf := (if_neg c1).symm.trans hf
    obtain rfl := Option.some.inj hf
    exact W.vret hx hb hr (fun t ht hW => ⟨⟨(), rfl, trivial, by rw [ht]; exact hP, va_K.moved hW.alike hK, hD⟩, hS.F ht⟩) hS.2.2 dX12_note_19
  ·
    replace hf := (if_pos c1).symm.trans hf
    refine lv_aload_n hx hb dX12_note_7 rfl (lv_at hl 0 rfl) ?_
    refine rG_18 (v := (σ.i 18)) hx hb hts i_X12_note_X12 hown hK hP (hts (.fieldLink RX12 334 "StatementRules2Model" "late" "I") k_X12_note_fieldLink_RX12_334_SRModel_late_I) dX12_note_8 rfl ?_
    refine lv_if_ge (tgt := 19) hx hb dX12_note_11 (by decide) (fun c2 => ?_) (fun c2 => ?_)
    ·
      replace hf := (if_pos c2).symm.trans hf
      obtain rfl := Option.some.inj hf
      exact W.vret hx hb hr (fun t ht hW => ⟨⟨(), rfl, trivial, by rw [ht]; exact hP, va_K.moved hW.alike hK, hD⟩, hS.F ht⟩) hS.2.2 dX12_note_19
    ·
      replace hf := (if_neg c2).symm.trans hf
      refine lv_aload_n hx hb dX12_note_14 rfl (lv_at hl 0 rfl) ?_
      refine lv_iload_n hx hb dX12_note_15 rfl (lv_at hl 1 rfl) ?_
      refine rP_18 hx hb hts i_X12_note_X12 hown hK hP hD hS (hts (.fieldLink RX12 334 "StatementRules2Model" "late" "I") k_X12_note_fieldLink_RX12_334_SRModel_late_I) dX12_note_16 (fun H locs hP hD hS => ?_)
      obtain rfl := Option.some.inj hf
      exact W.vret hx hb hr (fun t ht hW => ⟨⟨(), rfl, trivial, by rw [ht]; exact hP, va_K.moved hW.alike hK, hD⟩, hS.F ht⟩) hS.2.2 dX12_note_19
theorem k_X12_can_fieldLink_RX12_291_SRModel_fault_I : Cond.fieldLink RX12 291 "StatementRules2Model" "fault" "I" ∈ wzX12_can := List.mem_cons_of_mem _ (List.mem_append_left _ (List.mem_of_getElem? (i := 0) rfl))
theorem i_X12_can_X12 : ∀ w ∈ wsX120, w ∈ wzX12_can := fun _ h => List.mem_cons_of_mem _ (List.mem_append_right _ (List.mem_append_left _ (h)))
theorem k_X12_can_fieldLink_RX12_307_SRModel_tok_I : Cond.fieldLink RX12 307 "StatementRules2Model" "tok" "I" ∈ wzX12_can := List.mem_cons_of_mem _ (List.mem_append_left _ (List.mem_of_getElem? (i := 1) rfl))
theorem k_X12_can_fieldLink_RX12_304_SRModel_from_I : Cond.fieldLink RX12 304 "StatementRules2Model" "from" "I" ∈ wzX12_can := List.mem_cons_of_mem _ (List.mem_append_left _ (List.mem_of_getElem? (i := 2) rfl))
set_option maxHeartbeats 4000000 in
set_option maxRecDepth 100000 in
theorem j_X12_can_42 {p : Program} {e : Env} {s : State} {m : MethodId} {args : Array Value} {below : List Frame} {meth : Method} {c : Code} {A : Nat → Prop} (l : Launch) (dC : Nat → ClassId) (dI : Nat → Nat → Nat) (Q : RQ) (N : Nat) (R : Int32 × RS) (hx : p.tables.exec = Jvm.exec) (hb : c.code = cX12_can) (hr : meth.sig.returnType = (some .boolean)) (hml : c.maxLocals = 2) (hown : s.vm.findClass RX12 = some m.cls) (hts : ∀ w ∈ wzX12_can, w.before args s = true) (hlocks : meth.locks = false) (hZ : zAMB s) (hA : ∀ q : Nat, s.heap.size ≤ q → A q) (hK : va_K (dC, dI) vwCl (rT Q) s) : ∀ (σ : RS) (H : Heap) (locs : List Loc) (ls : Array Slot), f_X12_can_42 N σ = some R → va_P (dC, dI) vwCl (rW Q σ) H → va_D A (rW Q σ) → va_S A s.heap H locs → lv_has ls 2 [(0, .ref Q.h0)] → W p l e ({ frames := 2, cells := 0, slots := 0, locals := 120 }) s m args below meth c H locs 0 0 (MQ below (va_Qi (fun (r : Int32) (_ : Unit) => r = R.1) (fun (_ : Unit) (t : State) => zPost dC dI A (rW Q R.2) (rT Q) t) A) args s 0 0 A) (F0 m 42 ls []) := by
  intro σ  H locs ls hf hP hD hS hl
  unfold f_X12_can_42 at hf
  refine lv_aload_n hx hb dX12_can_42 rfl (lv_at hl 0 rfl) ?_
  refine rG_15 (v := (σ.i 15)) hx hb hts i_X12_can_X12 hown hK hP (hts (.fieldLink RX12 291 "StatementRules2Model" "fault" "I") k_X12_can_fieldLink_RX12_291_SRModel_fault_I) dX12_can_43 rfl ?_
  refine lv_if_ne (tgt := 53) hx hb dX12_can_46 (by decide) (fun c2 => ?_) (fun c2 => ?_)
  ·
    replace hf := (if_neg c2).symm.trans hf
    refine lv_iconst (v := 0) hx hb dX12_can_53 (by decide) ?_
    obtain rfl := Option.some.inj hf
    exact W.zret (v := 0) hx hb hr (rfl) (fun t ht hW => ⟨⟨0, (), rfl, rfl, by rw [ht]; exact hP, va_K.moved hW.alike hK, hD⟩, hS.F ht⟩) hS.2.2 dX12_can_54
  ·
    replace hf := (if_pos c2).symm.trans hf
    refine lv_iconst (v := 1) hx hb dX12_can_49 (by decide) ?_
    refine lv_goto (tgt := 54) hx hb dX12_can_50 (by decide) ?_
    obtain rfl := Option.some.inj hf
    exact W.zret (v := 1) hx hb hr (rfl) (fun t ht hW => ⟨⟨1, (), rfl, rfl, by rw [ht]; exact hP, va_K.moved hW.alike hK, hD⟩, hS.F ht⟩) hS.2.2 dX12_can_54
set_option maxHeartbeats 4000000 in
set_option maxRecDepth 100000 in
theorem j_X12_can_20 {p : Program} {e : Env} {s : State} {m : MethodId} {args : Array Value} {below : List Frame} {meth : Method} {c : Code} {A : Nat → Prop} (l : Launch) (dC : Nat → ClassId) (dI : Nat → Nat → Nat) (Q : RQ) (N : Nat) (R : Int32 × RS) (hx : p.tables.exec = Jvm.exec) (hb : c.code = cX12_can) (hr : meth.sig.returnType = (some .boolean)) (hml : c.maxLocals = 2) (hown : s.vm.findClass RX12 = some m.cls) (hts : ∀ w ∈ wzX12_can, w.before args s = true) (hlocks : meth.locks = false) (hZ : zAMB s) (hA : ∀ q : Nat, s.heap.size ≤ q → A q) (hK : va_K (dC, dI) vwCl (rT Q) s) : ∀ (σ : RS) (H : Heap) (locs : List Loc) (ls : Array Slot), f_X12_can_20 N σ = some R → va_P (dC, dI) vwCl (rW Q σ) H → va_D A (rW Q σ) → va_S A s.heap H locs → lv_has ls 2 [(0, .ref Q.h0)] → W p l e ({ frames := 2, cells := 0, slots := 0, locals := 120 }) s m args below meth c H locs 0 0 (MQ below (va_Qi (fun (r : Int32) (_ : Unit) => r = R.1) (fun (_ : Unit) (t : State) => zPost dC dI A (rW Q R.2) (rT Q) t) A) args s 0 0 A) (F0 m 20 ls []) := by
  intro σ  H locs ls hf hP hD hS hl
  unfold f_X12_can_20 at hf
  refine lv_aload_n hx hb dX12_can_20 rfl (lv_at hl 0 rfl) ?_
  refine lv_aload_n hx hb dX12_can_21 rfl (lv_at hl 0 rfl) ?_
  refine rG_10 (v := (σ.i 10)) hx hb hts i_X12_can_X12 hown hK hP (hts (.fieldLink RX12 307 "StatementRules2Model" "tok" "I") k_X12_can_fieldLink_RX12_307_SRModel_tok_I) dX12_can_22 rfl ?_
  refine lv_bipush (v := 6) hx hb dX12_can_25 (by decide) ?_
  refine lv_icmp_ne (tgt := 34) hx hb dX12_can_27 (by decide) (fun c4 => ?_) (fun c4 => ?_)
  ·
    replace hf := (if_neg c4).symm.trans hf
    refine lv_iconst (v := 2) hx hb dX12_can_34 (by decide) ?_
    refine lv_aload_n hx hb dX12_can_35 rfl (lv_at hl 0 rfl) ?_
    refine rG_11 (v := (σ.i 11)) hx hb hts i_X12_can_X12 hown hK hP (hts (.fieldLink RX12 304 "StatementRules2Model" "from" "I") k_X12_can_fieldLink_RX12_304_SRModel_from_I) dX12_can_36 rfl ?_
    obtain ⟨p5, hcp5, hf⟩ := hf_bind hf
    have hFc := r_free hD hS hA
    refine va_callv (va_runV (As := [.int 2, .int (σ.i 11)]) (rest := []) ⟨hx, hb, hml, hown, hts⟩ (c_X12_fail l dC dI _ Q N σ 2 (σ.i 11) p5 hcp5) (cwV 2 hts hX12_can_X12_fail_v337 rfl rfl rfl (by decide +kernel) ⟨Nat.le_of_ble_eq_true rfl, Nat.le_of_ble_eq_true rfl⟩) ⟨zPre.blind, va_recv hK hP (ci := 11) (q0 := 0) rfl rfl, zPre.go hZ hP hK hD⟩ rfl rfl hl.1 rfl (lv_room (Nat.le_of_ble_eq_true rfl)) dX12_can_39 ⟨Nat.le_of_ble_eq_true rfl, Nat.le_of_ble_eq_true rfl⟩) hS (fun q _ h => hFc q h) hFc (fun u9 t9 H1 locs ht hvm hw hB hz1 hk1 hS => ?_)
    obtain ⟨hP, hK1, hD1⟩ := hB
    rw [ht] at hP
    have hD := hD1.weaken (fun _ _ _ h => hFc _ h)
    generalize H1 = H at hP hS ⊢
    exact j_X12_can_42 l dC dI Q N R hx hb hr hml hown hts hlocks hZ hA hK p5 _ _ _ hf hP hD hS (lv_sub hl [0] rfl)
  ·
    replace hf := (if_pos c4).symm.trans hf
    refine lv_iconst (v := 1) hx hb dX12_can_30 (by decide) ?_
    refine lv_goto (tgt := 35) hx hb dX12_can_31 (by decide) ?_
    refine lv_aload_n hx hb dX12_can_35 rfl (lv_at hl 0 rfl) ?_
    refine rG_11 (v := (σ.i 11)) hx hb hts i_X12_can_X12 hown hK hP (hts (.fieldLink RX12 304 "StatementRules2Model" "from" "I") k_X12_can_fieldLink_RX12_304_SRModel_from_I) dX12_can_36 rfl ?_
    obtain ⟨p7, hcp7, hf⟩ := hf_bind hf
    have hFc := r_free hD hS hA
    refine va_callv (va_runV (As := [.int 1, .int (σ.i 11)]) (rest := []) ⟨hx, hb, hml, hown, hts⟩ (c_X12_fail l dC dI _ Q N σ 1 (σ.i 11) p7 hcp7) (cwV 2 hts hX12_can_X12_fail_v337 rfl rfl rfl (by decide +kernel) ⟨Nat.le_of_ble_eq_true rfl, Nat.le_of_ble_eq_true rfl⟩) ⟨zPre.blind, va_recv hK hP (ci := 11) (q0 := 0) rfl rfl, zPre.go hZ hP hK hD⟩ rfl rfl hl.1 rfl (lv_room (Nat.le_of_ble_eq_true rfl)) dX12_can_39 ⟨Nat.le_of_ble_eq_true rfl, Nat.le_of_ble_eq_true rfl⟩) hS (fun q _ h => hFc q h) hFc (fun u9 t9 H1 locs ht hvm hw hB hz1 hk1 hS => ?_)
    obtain ⟨hP, hK1, hD1⟩ := hB
    rw [ht] at hP
    have hD := hD1.weaken (fun _ _ _ h => hFc _ h)
    generalize H1 = H at hP hS ⊢
    exact j_X12_can_42 l dC dI Q N R hx hb hr hml hown hts hlocks hZ hA hK p7 _ _ _ hf hP hD hS (lv_sub hl [0] rfl)
set_option maxHeartbeats 4000000 in
set_option maxRecDepth 100000 in
theorem c_X12_can (l : Launch) (dC : Nat → ClassId) (dI : Nat → Nat → Nat) (sz : Nat) (Q : RQ) (N : Nat) (σ : RS) (x1 : Int32) (R : Int32 × RS) (hf : f_X12_can N σ x1 = some R) : Met l yX12_can wzX12_can ({ frames := 2, cells := 0, slots := 0, locals := 120 }) (va_Pc [.ref Q.h0, .int x1] (zPre dC dI sz (rW Q σ) (rT Q))) (va_Qi (fun (r : Int32) (_ : Unit) => r = R.1) (fun (_ : Unit) (t : State) => zPost dC dI (va_A (rW Q σ) sz) (rW Q R.2) (rT Q) t) (va_A (rW Q σ) sz)) 0 0 (va_A (rW Q σ) sz) := by
  refine Met.ofW (cc := cX12_can) (maxL := 2) (ret := (some .boolean)) (by decide) rfl ?_
  intro p e s m args below meth c s₁ B hml hv
  obtain ⟨rfl, hsz, hZ, hP, hK, hD0⟩ := hv
  have hx := B.exec
  have hb := B.bytes
  have hr := B.returns
  have hts := atoms_spec (ws := wzX12_can) B.pre
  have hown : s.vm.findClass RX12 = some m.cls := findClass_of_methodNamed B.named
  have hlocks := B.notSynchronized
  subst hsz
  have hD := hD0.self (sz := s.heap.size)
  generalize hAe : va_A (rW Q σ) s.heap.size = A at hD ⊢
  have hA : ∀ q : Nat, s.heap.size ≤ q → A q := fun q h => by rw [← hAe]; exact Or.inr h
  have hS : va_S A s.heap s.heap [] := va_S.rf
  have hl := lv_entry ([.ref Q.h0, .int x1]) (n := 2) (Nat.le_of_ble_eq_true rfl)
  rw [lg_entry_eq]
  generalize (lg_sl ([.ref Q.h0, .int x1]) ++ List.replicate (2 - (lg_sl ([.ref Q.h0, .int x1])).length) Slot.unset).toArray = ls at hl ⊢
  have hl : lv_has ls 2 [(0, .ref Q.h0), (1, .int x1)] := hl
  unfold f_X12_can at hf
  refine lv_aload_n hx hb dX12_can_0 rfl (lv_at hl 0 rfl) ?_
  refine rG_15 (v := (σ.i 15)) hx hb hts i_X12_can_X12 hown hK hP (hts (.fieldLink RX12 291 "StatementRules2Model" "fault" "I") k_X12_can_fieldLink_RX12_291_SRModel_fault_I) dX12_can_1 rfl ?_
  refine lv_if_ne (tgt := 42) hx hb dX12_can_4 (by decide) (fun c1 => ?_) (fun c1 => ?_)
  ·
    replace hf := (if_neg c1).symm.trans hf
    exact j_X12_can_42 l dC dI Q N R hx hb hr hml hown hts hlocks hZ hA hK σ _ _ _ hf hP hD hS (lv_sub hl [0] rfl)
  ·
    replace hf := (if_pos c1).symm.trans hf
    refine lv_iload_n hx hb dX12_can_7 rfl (lv_at hl 1 rfl) ?_
    refine lv_if_eq (tgt := 20) hx hb dX12_can_8 (by decide) (fun c3 => ?_) (fun c3 => ?_)
    ·
      replace hf := (if_pos c3).symm.trans hf
      exact j_X12_can_20 l dC dI Q N R hx hb hr hml hown hts hlocks hZ hA hK σ _ _ _ hf hP hD hS (lv_sub hl [0] rfl)
    ·
      replace hf := (if_neg c3).symm.trans hf
      refine lv_aload_n hx hb dX12_can_11 rfl (lv_at hl 0 rfl) ?_
      refine rG_10 (v := (σ.i 10)) hx hb hts i_X12_can_X12 hown hK hP (hts (.fieldLink RX12 307 "StatementRules2Model" "tok" "I") k_X12_can_fieldLink_RX12_307_SRModel_tok_I) dX12_can_12 rfl ?_
      refine lv_bipush (v := 6) hx hb dX12_can_15 (by decide) ?_
      refine lv_icmp_ne (tgt := 42) hx hb dX12_can_17 (by decide) (fun c9 => ?_) (fun c9 => ?_)
      ·
        replace hf := (if_neg c9).symm.trans hf
        exact j_X12_can_42 l dC dI Q N R hx hb hr hml hown hts hlocks hZ hA hK σ _ _ _ hf hP hD hS (lv_sub hl [0] rfl)
      ·
        replace hf := (if_pos c9).symm.trans hf
        exact j_X12_can_20 l dC dI Q N R hx hb hr hml hown hts hlocks hZ hA hK σ _ _ _ hf hP hD hS (lv_sub hl [0] rfl)
end
