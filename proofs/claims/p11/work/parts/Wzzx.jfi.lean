/-! both readers: a jump's end -/
theorem mul2 {x : Int32} (h0 : 0 ≤ x.toInt) (h1 : x.toInt < 1000000000) : (2 * x).toInt = 2 * x.toInt := by
  have e2 : (2 : Int32).toInt = 2 := by decide
  rw [Int32.toInt_mul, e2, Int.bmod_eq_of_le (by omega) (by omega)]
/-- the class: a jump's record -/
theorem e_addJ {N a : Nat} {X : CS} {xc : Int32} {bb : Int} {P : Unit × CS} (hb : (xc = 0 ∧ bb = 0) ∨ (xc = 1 ∧ bb = 1)) (h1 : 0 ≤ (X.o a 1).toInt ∧ (X.o a 1).toInt < 1000) (h55 : 0 ≤ (X.i 55).toInt ∧ (X.i 55).toInt < 160) (e : f_X6_addJump N X a xc = some P) : CRQ X P.2 ∧ (∀ k : Nat, k ≠ 55 → P.2.i k = X.i k) ∧ (P.2.i 55).toInt = (X.i 55).toInt + 1 ∧ (∀ i : Nat, ¬ (i : Int) = (X.i 55).toInt → P.2.a 52 i = X.a 52 i) ∧ (∀ i : Nat, (i : Int) = (X.i 55).toInt → (P.2.a 52 i).toInt = 2 * (X.o a 1).toInt + bb) ∧ (P.2.a 0 = X.a 0 ∧ P.2.a 9 = X.a 9 ∧ P.2.a 49 = X.a 49) ∧ P.2.b = X.b ∧ P.2.l = X.l ∧ (P.2.hs = X.hs ∧ P.2.L = X.L ∧ P.2.k = X.k) := by
  have e0 : (0 : Int32).toInt = 0 := by decide
  have e1 : (1 : Int32).toInt = 1 := by decide
  have m2 := mul2 h1.1 (by omega)
  unfold f_X6_addJump at e
  obtain ⟨j, ej, e⟩ := hf_bind e
  unfold f_X6_jumpTo at ej
  obtain ⟨-, ej⟩ := hf_ite ej
  have hj : j.2 = X ∧ j.1.toInt = 2 * (X.o a 1).toInt + bb := by
    rcases hb with ⟨z1, z2⟩ | ⟨z1, z2⟩
    · rw [if_pos z1] at ej
      rw [← Option.some.inj ej]
      refine ⟨rfl, ?_⟩
      show (2 * X.o a 1 + 0).toInt = _
      rw [toInt_add (by rw [m2, e0]; omega) (by rw [m2, e0]; omega), m2, e0, z2]
    · rw [if_neg (by rw [z1]; decide)] at ej
      rw [← Option.some.inj ej]
      refine ⟨rfl, ?_⟩
      show (2 * X.o a 1 + 1).toInt = _
      rw [toInt_add (by rw [m2, e1]; omega) (by rw [m2, e1]; omega), m2, e1, z2]
  rw [hj.1] at e
  have hP := Option.some.inj e
  have a52 : P.2.a 52 = upd (X.a 52) (X.i 55).toNatClampNeg j.1 := by
    rw [← hP]
    show gPut (X.a 52) 160 (X.i 55) j.1 = _
    unfold gPut
    exact if_pos ⟨h55.1, by omega⟩
  have n55 : (((X.i 55).toNatClampNeg : Nat) : Int) = (X.i 55).toInt := by
    show (((X.i 55).toInt.toNat : Nat) : Int) = _
    omega
  refine ⟨?_, fun k hk => ?_, ?_, fun i hi => ?_, fun i hi => ?_, ?_, ?_, ?_, ?_⟩
  · rw [← hP]
    exact ⟨rfl, rfl, rfl, rfl⟩
  · rw [← hP]
    exact ci_ne _ _ _ hk
  · rw [← hP]
    show (X.i 55 + 1).toInt = _
    exact ad1 h55.1 (by omega)
  · rw [a52]
    exact updN (by omega)
  · rw [a52, updA (by omega)]
    exact hj.2
  · rw [← hP]
    exact ⟨rfl, rfl, rfl⟩
  · rw [← hP]
    rfl
  · rw [← hP]
    rfl
  · rw [← hP]
    exact ⟨rfl, rfl, rfl⟩
/-- the class's instruction of a jump -/
theorem y_leave {N : Nat} {d : Int32} {X : CS} {s : RS} {x1 x2 : Int32} {R : Unit × CS} (hv : ENV d X s) (e : ((f_X7_leave N X x1 x2).bind fun p => f_X7_jump_129 N p.2) = some R) : ∃ Y : CS, ENV d Y s ∧ CKX X Y ∧ R.2 = CS.setI Y 36 0 ∧ ∃ ww : Unit × CS, Y = ww.2 ∧ ((x2 = X.i 38 ∧ f_X0_add N X 30 x1 = some ww) ∨ f_X0_add N X 60 (x1 * 32 + x2) = some ww) := by
  obtain ⟨p, ep, e⟩ := hf_bind e
  unfold f_X7_jump_129 at e
  have eR := Option.some.inj e
  unfold f_X7_leave at ep
  by_cases c : x2 = X.i 38
  · rw [if_pos c] at ep
    obtain ⟨w, ew, ep⟩ := hf_bind ep
    obtain ⟨a1, a2, -, -⟩ := y_add hv ew
    refine ⟨p.2, ?_, ?_, by rw [← eR], w, by rw [← Option.some.inj ep], Or.inl ⟨c, ew⟩⟩
    · rw [← Option.some.inj ep]
      exact a1
    · rw [← Option.some.inj ep]
      exact a2
  · rw [if_neg c] at ep
    obtain ⟨w, ew, ep⟩ := hf_bind ep
    obtain ⟨a1, a2, -, -⟩ := y_add hv ew
    refine ⟨p.2, ?_, ?_, by rw [← eR], w, by rw [← Option.some.inj ep], Or.inr ew⟩
    · rw [← Option.some.inj ep]
      exact a1
    · rw [← Option.some.inj ep]
      exact a2
theorem y_leaf {N : Nat} {X : CS} {x1 x2 : Int32} {R : Unit × CS} (hv : ¬ X.i 32 = 0) (e : ((f_X7_leave N X x1 x2).bind fun p => f_X7_jump_129 N p.2) = some R) : ¬ R.2.i 32 = 0 := by
  obtain ⟨p, ep, e⟩ := hf_bind e
  unfold f_X7_jump_129 at e
  rw [← Option.some.inj e]
  show ¬ (CS.setI p.2 36 0).i 32 = 0
  rw [ci_ne _ _ _ (by decide), kF_X7_leave N X x1 x2 p ep hv]
  exact hv
/-- the reference: the jump's instruction -/
theorem r_jins {N : Nat} {q J1 : RS} {xr x3 x4 : Int32} {w : CEL} {bb : Int} (hbx : (xr = 1 ∧ bb = 0) ∨ (xr = 0 ∧ bb = 1)) (hx4 : x4.toInt = (ceG w : Int)) (hJ : f_X12_jump_234 N q xr x3 x4 = some J1) : ∃ (F : Nat) (yE : Int32 × RS) (j : Nat) (v : Int32), (j = yE.1.toNatClampNeg ∧ v = yE.2.a 47 (ceG w)) ∧ ((F = 48 ∧ bb = 0) ∨ (F = 49 ∧ bb = 1)) ∧ f_X12_emit N q 36 (q.a F (ceG w)) = some yE ∧ f_X12_jump_302 N (RS.setA (RS.setA yE.2 23 j v) F (ceG w) yE.1) xr x3 x4 = some J1 := by
  have xn : x4.toNatClampNeg = ceG w := by
    show x4.toInt.toNat = ceG w
    omega
  unfold f_X12_jump_234 at hJ
  rcases hbx with ⟨z1, z2⟩ | ⟨z1, z2⟩
  · rw [z1, if_neg n10] at hJ
    rw [z1]
    obtain ⟨-, hJ⟩ := hf_ite hJ
    obtain ⟨y, hy, hJ⟩ := hf_bind hJ
    unfold f_X12_jump_263 at hJ
    obtain ⟨-, hJ⟩ := hf_ite hJ
    obtain ⟨-, hJ⟩ := hf_ite hJ
    rw [if_neg n10] at hJ
    rw [xn] at hy hJ
    exact ⟨48, y, _, _, ⟨rfl, rfl⟩, Or.inl ⟨rfl, z2⟩, hy, hJ⟩
  · rw [z1, if_pos rfl] at hJ
    rw [z1]
    obtain ⟨-, hJ⟩ := hf_ite hJ
    obtain ⟨y, hy, hJ⟩ := hf_bind hJ
    unfold f_X12_jump_263 at hJ
    obtain ⟨-, hJ⟩ := hf_ite hJ
    obtain ⟨-, hJ⟩ := hf_ite hJ
    rw [if_pos rfl] at hJ
    rw [xn] at hy hJ
    exact ⟨49, y, _, _, ⟨rfl, rfl⟩, Or.inr ⟨rfl, z2⟩, hy, hJ⟩
theorem STK.om {S : CS} {s : RS} {w : CEL} {L2 : List CEL} : ∀ (L1 : List CEL) (m e k : Int), STK S s (L1 ++ w :: L2) m e k → ∀ y ∈ L2, y.1 < w.1
  | [], m, e, k, h => STK.ord L2 w m e k h
  | _ :: L1, _, _, _, h => by
    obtain ⟨m', e', k', -, -, h3⟩ := h
    exact STK.om L1 m' e' k' h3
theorem STK.n305 {S : CS} {s : RS} : ∀ (L : List CEL) (c : CEL) (m e k : Int), STK S s (c :: L) m e k → ∀ y ∈ L, ¬ S.o y.2.1 0 = 305
  | [], _, _, _, _, _, y, hy => absurd hy List.not_mem_nil
  | c0 :: L, c, _, _, _, h, y, hy => by
    obtain ⟨m', e', k', -, h2, h3⟩ := h
    rcases List.mem_cons.mp hy with z | z
    · rw [z]
      exact (h2 c0 rfl).2.1
    · exact STK.n305 L c0 m' e' k' h3 y z
theorem jfl_flg {s : RS} {g : Nat} {k : Bool} {bb : Int} (h : k = true ↔ bb = 0) : jfl s g k = flg s g bb := by
  unfold jfl flg
  by_cases q : k = true
  · rw [if_pos q, if_pos (h.mp q)]
  · rw [if_neg q, if_neg (fun z => q (h.mpr z))]
/-- the class: a jump's record changes nothing of the code -/
theorem aj_a {N a : Nat} {X : CS} {xc : Int32} {P : Unit × CS} (e : f_X6_addJump N X a xc = some P) : P.2.a 48 = X.a 48 ∧ P.2.a 49 = X.a 49 := by
  unfold f_X6_addJump at e
  obtain ⟨j, ej, e⟩ := hf_bind e
  unfold f_X6_jumpTo at ej
  obtain ⟨-, ej⟩ := hf_ite ej
  have e2 : j.2 = X := by
    by_cases c : xc = 0
    · rw [if_pos c] at ej
      rw [← Option.some.inj ej]
    · rw [if_neg c] at ej
      rw [← Option.some.inj ej]
  rw [e2] at e
  rw [← Option.some.inj e]
  exact ⟨cpA_ne (by decide), cpA_ne (by decide)⟩
/-- what a jump changes beside the code, from the statement's begin to its end -/
theorem jch_of {w : CEL} {bb : Int} {k : Bool} {kk : Nat} {s v J V : RS} (hk : k = true ↔ bb = 0) (hb : bb = 0 ∨ bb = 1) (k31 : kk < 2147483648) (t1 : TBK s v) (ej : EJF v J) (hd : JHD w bb kk v J) (hj : JFL w bb v J ∨ JPD w bb v J) (t2 : TBK J V) (hw : ((ceG w : Nat) : Int) < (s.i 43).toInt) : JCH (ceG w) kk k s V ∧ V.i 43 = s.i 43 ∧ (JFL w bb v J → jfl V (ceG w) k = 1) ∧ (JPD w bb v J → ∃ i : Nat, (i : Int) < (V.i 59).toInt ∧ (V.a 60 i).toInt = (ceG w : Int) ∧ (¬ V.a 61 i = 0 ↔ k = true) ∧ V.a 62 i = v.a 57 ((v.i 56).toInt - 1).toNat) := by
  have ek : (Int32.ofNat kk).toInt = (kk : Int) := Int32.toInt_ofNat_of_lt (by omega)
  have g1 := GKP.tbk t1
  have g2 := GKP.tbk t2
  have i1 : v.i 43 = s.i 43 := t1.1.1.2.2.2.2.1
  have i2 : J.i 43 = v.i 43 := ej.1 43 (by decide)
  have i3 : V.i 43 = J.i 43 := t2.1.1.2.2.2.2.1
  have i4 : V.i 43 = s.i 43 := i3.trans (i2.trans i1)
  obtain ⟨p1, p2, -⟩ := pnd.up hj (ej.A 66 (by decide))
  have lt : ∀ j : Nat, (j : Int) < (s.i 43).toInt → (j : Int) < (J.i 43).toInt := fun j hj => by
    rw [i2, i1]
    exact hj
  have fl : ∀ (g' : Nat) (k' : Bool) (b' : Int), (k' = true ↔ b' = 0) → (g' : Int) < (s.i 43).toInt → jfl V g' k' = flg J g' b' ∧ jfl s g' k' = flg v g' b' := fun g' k' b' h h' => by
    obtain ⟨x1, x2, -⟩ := g2.2.1 g' (lt g' h')
    obtain ⟨y1, y2, -⟩ := g1.2.1 g' h'
    refine ⟨?_, ?_⟩
    · rw [← jfl_flg h]
      unfold jfl
      rw [x1, x2]
    · rw [← jfl_flg h]
      unfold jfl
      rw [y1, y2]
  have bo : ∀ k' : Bool, ∃ b' : Int, k' = true ↔ b' = 0 := fun k' => by
    cases k' with
    | true => exact ⟨0, fun _ => rfl, fun _ => rfl⟩
    | false => exact ⟨1, fun z => by (cases z), fun z => by omega⟩
  have hv : ∀ (g' : Nat), (g' : Int) < (s.i 43).toInt → V.a 48 g' = J.a 48 g' ∧ V.a 49 g' = J.a 49 g' ∧ v.a 48 g' = s.a 48 g' ∧ v.a 49 g' = s.a 49 g' := fun g' h' => by
    obtain ⟨-, -, x1, x2, -⟩ := g2.2.1 g' (lt g' h')
    obtain ⟨-, -, y1, y2, -⟩ := g1.2.1 g' h'
    exact ⟨x1, x2, y1, y2⟩
  refine ⟨⟨i4, fun g' k' h' hn => ?_, ?_, fun g' k' h' z => ?_, fun j hj' => ?_, ?_, fun j hj' => ?_⟩, i4, fun z => ?_, fun z => ?_⟩
  · obtain ⟨x1, x2, y1, y2⟩ := hv g' h'
    unfold jhd
    rw [x1, x2, ← y1, ← y2]
    cases k' with
    | true =>
      rw [if_pos rfl, if_pos rfl]
      rcases hb with z | z
      · have kt : k = true := hk.mpr z
        rw [(hd.1 z).1]
        exact updN (fun e => hn ⟨e, kt.symm⟩)
      · rw [(hd.2 z).2.1]
    | false =>
      rw [if_neg (by decide), if_neg (by decide)]
      rcases hb with z | z
      · rw [(hd.1 z).2.1]
      · have kf : k = false := by
          cases hkk : k with
          | true => have := hk.mp hkk; omega
          | false => rfl
        rw [(hd.2 z).1]
        exact updN (fun e => hn ⟨e, kf.symm⟩)
  · obtain ⟨x1, x2, -, -⟩ := hv (ceG w) hw
    unfold jhd
    rw [x1, x2]
    rcases hb with z | z
    · rw [if_pos (hk.mpr z), (hd.1 z).1, updA rfl]
      exact ek
    · rw [if_neg (fun q => by have := hk.mp q; omega), (hd.2 z).1, updA rfl]
      exact ek
  · obtain ⟨b', hb'⟩ := bo k'
    obtain ⟨z1, z2⟩ := fl g' k' b' hb' h'
    rw [z1]
    rw [z2] at z
    exact flg.up hj hb g' b' z
  · rw [(g2.2.1 j (lt j hj')).2.2.2.2, ej.A 47 (by decide)]
    exact (g1.2.1 j hj').2.2.2.2
  · have := g1.2.2.1
    have := g2.2.2.1
    omega
  · have l1 := g1.2.2.1
    obtain ⟨x1, x2, x3⟩ := g1.2.2.2 j hj'
    obtain ⟨y1, y2, y3⟩ := p2 j (by omega)
    obtain ⟨z1, z2, z3⟩ := g2.2.2.2 j (by omega)
    exact ⟨z1.trans (y1.trans x1), z2.trans (y2.trans x2), z3.trans (y3.trans x3)⟩
  · rw [(fl (ceG w) k bb hk hw).1]
    exact flg.at z hb
  · obtain ⟨-, -, ⟨n0, n1⟩, -, n3⟩ := z
    obtain ⟨i, hi⟩ : ∃ i : Nat, (i : Int) = (v.i 59).toInt := ⟨(v.i 59).toInt.toNat, by omega⟩
    obtain ⟨m1, m2, m3⟩ := n3 i hi
    obtain ⟨z1, z2, z3⟩ := g2.2.2.2 i (by omega)
    have l2 := g2.2.2.1
    exact ⟨i, by omega, by rw [z1]; exact m1, by rw [z2, m2]; exact hk.symm, by rw [z3]; exact m3⟩
set_option maxHeartbeats 4000000 in
theorem jp_fin {N : Nat} (hN : 1000 ≤ N) {d : Int32} {B : CS} {b : RS} {t0 T n : Nat} {L : List CEL} {x bb : Int} {S P P5 : CS} {s q J1 V U : RS} {c w : CEL} {xr xc x3 x4 xw : Int32} {R : Unit × CS} {Aj : JBA} (hC : COR d B b t0 (c :: L) x S s) (hS : STO c T S s) (hT : t0 ≤ T) (hm : NMC c S) (t9 : T < 1000) (hB : BOT b S (c :: L)) (hBS : BSE S (c :: L)) (hB2 : BO2 B b S (c :: L)) (wq : WAY d T 5 1 0 0 0 S s P q) (p55 : P.i 55 = S.i 55) (hw : w ∈ c :: L) (gw : isGo (P.o w.2.1 0)) (glo : bb = 1 → isLo (P.o w.2.1 0)) (jg : KU3 U s → JRW Aj U B b (vws S s (c :: L)) S s → JRG Aj U B b (vws S s (c :: L)) s [] (JQG U 1264 0 1 (pcC P) (pcR q) JQZ) (-1) (-1) P q) (hxw : xw.toInt = (w.1 : Int)) (hx4 : x4.toInt = (ceG w : Int)) (hbx : (xr = 1 ∧ xc = 0 ∧ bb = 0) ∨ (xr = 0 ∧ xc = 1 ∧ bb = 1)) (h3 : (x3 = 0 ∧ P5 = P) ∨ (x3 = 1 ∧ ¬ P.i 43 = 0 ∧ ∃ a : Unit × CS, f_X9_advance N P = some a ∧ P5 = a.2)) (e : f_X7_jump_72 N P5 xc xw = some R) (hJ : f_X12_jump_234 N q xr x3 x4 = some J1) (ho : f_X12_over N J1 0 = some V) (g : f_X12_parse_10 N n V = some U) : OUTS N d B b t0 T c L x R.2 U (JTR Aj U B b (c :: L) S s) := by
  obtain ⟨q1, q2, q3, q4, q5, q6⟩ := id hS
  have hv := hC.1
  have ph3 : 3 ≤ phI s := by
    have a := hC.2.2.2.2.2.2.1.2.1
    have b := (PDM.ge S (c :: L)).1
    have e := hC.2.2.2.2.2.2.2.2.2.2.2.1
    omega
  have nph := wq.2.2.2.2.2.2.1.2.1
  have hb : bb = 0 ∨ bb = 1 := by omega
  have hbr : (xr = 1 ∧ bb = 0) ∨ (xr = 0 ∧ bb = 1) := by
    rcases hbx with ⟨z1, z2, z3⟩ | ⟨z1, z2, z3⟩
    · exact Or.inl ⟨z1, z3⟩
    · exact Or.inr ⟨z1, z3⟩
  have hbc : (xc = 0 ∧ bb = 0) ∨ (xc = 1 ∧ bb = 1) := by
    rcases hbx with ⟨z1, z2, z3⟩ | ⟨z1, z2, z3⟩
    · exact Or.inl ⟨z2, z3⟩
    · exact Or.inr ⟨z2, z3⟩
  -- the reference's instruction
  obtain ⟨F, yE, jE, vE, ⟨hjE, hvE⟩, hF, hE, hJ2⟩ := r_jins hbr hx4 hJ
  obtain ⟨w5, -, v5, l20, -⟩ := wq.em (by omega) hE
  have m22 := em_22 wq.1 (by omega) hE
  have qE : qj yE.2 = qj q := (qj2_eq (em_env wq.1 (by omega) hE).2.2.1).1
  have w6 := (w5.s23 (j := jE) (v := vE)).nu (p' := 5) (f' := 0) (k' := 0) (y' := 0) (z' := 0) (by omega) (by omega) (by omega) (by omega) (by omega)
  obtain ⟨Q, hQ⟩ : ∃ y, y = RS.setA yE.2 23 jE vE := ⟨_, rfl⟩
  have Qi : Q.i = yE.2.i := by rw [hQ]; rfl
  have Qa : ∀ m : Nat, m ≠ 23 → Q.a m = yE.2.a m := by
    rw [hQ]
    exact fun m hm => setA_nk hm
  have qQ : qe Q = qe (RS.setA yE.2 23 jE vE) := by rw [hQ]
  rw [← hQ] at hJ2 w6
  clear hQ
  unfold f_X12_jump_302 at hJ2
  obtain ⟨J, hJp, hJ3⟩ := hf_bind hJ2
  have qJQ : qe J = qe Q := (kre_f_X12_pend N _ x4 xr J hJp).trans (by rcases hF with ⟨f1, -⟩ | ⟨f1, -⟩ <;> rw [f1] <;> rfl)
  obtain ⟨ej, ⟨jF, jO⟩, jj⟩ := jp_pend (F := F) (w := w) (bb := bb) (by omega) w6.1.wp.1.2.1 hx4 hbr hJp
  -- what stands before the jump
  obtain ⟨c6, t6, l6, o6⟩ := hC.way q1 q2 q3 hT w6 ⟨by omega, by omega, by omega, by omega, by omega⟩
  have hin := hC.inl q1 q3
  have eoP : ∀ y ∈ c :: L, P.o y.2.1 = S.o y.2.1 := fun y hy => (hin.o w6.2.2.2.2.1 y hy).1
  have glw := STK.glb L c _ _ _ c6.2.1 (BOT.mv (c :: L) hB eoP) w hw
  have evJ : ENV d P J := ej.env w6.1 (fun j hj => by
    obtain ⟨p1, p2, -⟩ := pnd.up jj (ej.A 66 (by decide))
    by_cases cj : (j : Int) < (Q.i 59).toInt
    · rw [(p2 j cj).2.2]
      exact w6.1.wp.2 j cj
    · rcases jj with j1 | j1
      · rw [j1.2.1] at hj
        exact absurd hj cj
      · obtain ⟨y, -, -, -, -, y1, y2⟩ := TWL c6.2.1 t6 (BO2.mv (c :: L) hB2 eoP) c6.2.2.2.2.2.1.2.1 glw hw j1
        have je : (j : Int) = (Q.i 59).toInt := by
          have := j1.2.2.1.2
          omega
        rw [(j1.2.2.2.2 j je).2.2, y1]
        exact y2)
  have tJ : tpI J = (T : Int) := by
    show (J.i 63).toInt = (T : Int)
    rw [ej.1 63 (by decide)]
    exact w6.2.1
  have wJ := WAY.rf evJ tJ w6.2.2.2.2.2.1.2.2.2.2
  have step : ∃ J2 : RS, f_X12_jump_317 N J2 = some J1 ∧ WAY d T 0 0 0 0 0 P J P5 J2 ∧ qj J2 = qj J ∧ J2.a 22 = J.a 22 ∧ pj P5 = pj P ∧ qe J2 = qe J ∧ pe P5 = pe P := by
    rcases h3 with ⟨z3, z5⟩ | ⟨z3, nz, a, ea, z5⟩
    · rw [z3, if_pos rfl] at hJ3
      rw [z5]
      exact ⟨J, hJ3, wJ, rfl, rfl, rfl, rfl, rfl⟩
    · rw [z3, if_neg n10] at hJ3
      obtain ⟨J2, h2, hJ4⟩ := hf_bind hJ3
      obtain ⟨a1, a2, a3, a4, a5, a6, a7, a8, a9, a10⟩ := evJ.adv hN nz ea h2
      rw [z5]
      exact ⟨J2, hJ4, (wJ.nx hN nz ea h2).1.nu (by omega) (by omega) (by omega) (by omega) (by omega), a2, a7, a3, kre_f_X12_next N J J2 h2, ke_X9_advance N P a ea⟩
  obtain ⟨J2, hJ5, w7, qJ2, aJ2, pj5, qeJ2, peP5⟩ := step
  unfold f_X12_jump_317 at hJ5
  obtain ⟨nd, hnd, hJ6⟩ := hf_bind hJ5
  have eJ1 : nd.2 = J1 := Option.some.inj hJ6
  unfold f_X7_jump_72 at e
  obtain ⟨p19, e19, e⟩ := hf_bind e
  obtain ⟨p23, e23, e⟩ := hf_bind e
  have brf : ∀ (X : CS) (a : Nat), ¬ X.i 32 = 0 → (if xc = 0 then if oK X a 0 then (f_X7_leave N X (CS.o X a 9) (CS.o X a 2)).bind fun p35 => f_X7_jump_129 N p35.2 else none else if oK X a 0 then (f_X7_leave N X (CS.o X a 10) (CS.o X a 2)).bind fun p40 => f_X7_jump_129 N p40.2 else none) = some R → ¬ R.2.i 32 = 0 := fun X a z h => by
    by_cases cx : xc = 0
    · rw [if_pos cx] at h
      exact y_leaf z (hf_ite h).2
    · rw [if_neg cx] at h
      exact y_leaf z (hf_ite h).2
  rcases y_need hN w7.1 (c := 59) (d := 59) (Or.inl ⟨by decide, by decide⟩) (by decide) (by decide) (by decide) e19 hnd with ⟨o1, o2, o3⟩ | ⟨o1, -, o3, o4, o5, -, o7, o8, o9, -⟩
  · refine Or.inl ⟨?_, u_flt g (krf_f_X12_over N J1 0 V ho (by rw [← eJ1]; exact o3))⟩
    obtain ⟨r1, -⟩ := e_row e23
    cases hp : p23.1 with
    | none =>
      rw [hp] at e
      have e' : f_X7_jump_129 N p23.2 = some R := e
      unfold f_X7_jump_129 at e'
      rw [← Option.some.inj e']
      show ¬ (CS.setI p23.2 36 0).i 32 = 0
      rw [ci_ne _ _ _ (by decide), r1]
      exact o2
    | some a =>
      rw [hp] at e
      have e' : ((f_X6_addJump N p23.2 a xc).bind fun p29 => (if xc = 0 then if oK p29.2 a 0 then (f_X7_leave N p29.2 (CS.o p29.2 a 9) (CS.o p29.2 a 2)).bind fun p35 => f_X7_jump_129 N p35.2 else none else if oK p29.2 a 0 then (f_X7_leave N p29.2 (CS.o p29.2 a 10) (CS.o p29.2 a 2)).bind fun p40 => f_X7_jump_129 N p40.2 else none)) = some R := e
      obtain ⟨p29, e29, e'⟩ := hf_bind e'
      have z1 : ¬ p23.2.i 32 = 0 := by rw [r1]; exact o2
      refine brf p29.2 a ?_ e'
      rw [kF_X6_addJump N p23.2 a xc p29 e29 z1]
      exact z1
  · rcases w7.nd hN (c := 59) (e := 59) (Or.inl ⟨by decide, by decide⟩) (by decide) (by decide) (by decide) e19 hnd with ⟨z, -⟩ | ⟨-, w8, -⟩
    · exact absurd (z.symm.trans o1) (by decide)
    rw [eJ1] at w8 o3 o4 o7 o8 o9
    have w9 := WAY.ej ej w6.1 w8
    have w10 := w6.tr w9
    obtain ⟨X, hX⟩ : ∃ X, X = p19.2 := ⟨_, rfl⟩
    have keX : pe X = pe P := by rw [hX]; exact (ke_X1_expect N P5 59 p19 e19).trans peP5
    have qeJ1 : qe J1 = qe Q := by rw [← eJ1]; exact ((kre_f_X12_need N J2 59 nd hnd).trans qeJ2).trans qJQ
    have Ev := sj.ej Q J1
    obtain ⟨v, hvv⟩ : ∃ v, v = sj Q J1 := ⟨_, rfl⟩
    have v59 : v.i 59 = Q.i 59 := by rw [hvv]; rfl
    have va : ∀ k : Nat, isJ k → v.a k = Q.a k := fun k hk => by
      rw [hvv]
      exact sj.a hk
    rw [← hvv] at w9 w10 Ev
    rw [← hX] at w8 w9 w10 o3 o5 e23
    clear hvv hX
    obtain ⟨cX, tX, lX, oX⟩ := hC.way q1 q2 q3 hT w10 ⟨by omega, by omega, by omega, by omega, by omega⟩
    have eoX : ∀ y ∈ c :: L, X.o y.2.1 = S.o y.2.1 := fun y hy => (hin.o w10.2.2.2.2.1 y hy).1
    obtain ⟨u59, ⟨u48, u49⟩, u5, u56, u57, u58⟩ := qj_jp (o4.trans qJ2)
    have x55 : X.i 55 = S.i 55 := (pj_55 o5).trans ((pj_55 pj5).trans p55)
    have s20 := wq.2.2.2.1.2.1
    have b20 := hC.2.2.2.2.2.1.2.2.1.1
    have q20 : 0 ≤ (q.i 20).toInt := wq.1.2.2.2.2.2.2.1
    have q20' := Int32.toInt_lt (q.i 20)
    -- the instruction's place
    obtain ⟨kk, hkk⟩ : ∃ kk : Nat, kk = (q.i 20).toNatClampNeg := ⟨_, rfl⟩
    have kk' : (kk : Int) = (q.i 20).toInt := by
      rw [hkk]
      show (((q.i 20).toInt.toNat : Nat) : Int) = _
      omega
    have ofk : Int32.ofNat kk = yE.1 := by
      rw [v5]
      apply Int32.toInt_inj.mp
      rw [Int32.toInt_ofNat_of_lt (by omega)]
      exact kk'
    rw [← hkk] at m22
    have v22 : v.a 22 kk = q.a F (ceG w) := by
      rw [← Ev.A 22 (by decide), o9, aJ2, ej.A 22 (by decide), Qa 22 (by decide)]
      exact m22
    have vi : ∀ k : Nat, k ≠ 59 → J1.i k = J.i k → v.i k = Q.i k := fun k hk h => by
      rw [← Ev.1 k hk, h, ej.1 k hk]
    have v56 := vi 56 (by decide) u56
    have v57 : v.a 57 = Q.a 57 := by rw [← Ev.A 57 (by decide), u57, ej.A 57 (by decide)]
    have v58 : v.a 58 = Q.a 58 := by rw [← Ev.A 58 (by decide), u58, ej.A 58 (by decide)]
    have v5' : v.a 50 = Q.a 50 ∧ v.a 51 = Q.a 51 ∧ v.a 60 = Q.a 60 ∧ v.a 61 = Q.a 61 ∧ v.a 62 = Q.a 62 := ⟨va 50 (by decide), va 51 (by decide), va 60 (by decide), va 61 (by decide), va 62 (by decide)⟩
    have hj : JFL w bb v J1 ∨ JPD w bb v J1 := by
      rcases jj with j1 | j1
      · exact Or.inl (j1.tr v56 v58 v59 u59 v5' u5)
      · exact Or.inr (j1.tr v56 v58 v57 v59 u59 v5' u5)
    have Qq : Q.a 48 = q.a 48 ∧ Q.a 49 = q.a 49 := by
      rw [Qa 48 (by decide), Qa 49 (by decide)]
      exact (qj_jp qE).2.1
    have hd : JHD w bb kk v J1 := by
      have v48 := va 48 (by decide)
      have v49 := va 49 (by decide)
      rcases hF with ⟨f1, f2⟩ | ⟨f1, f2⟩
      · rw [f1] at jF jO v22
        refine ⟨fun _ => ⟨?_, ?_, ?_⟩, fun z => by omega⟩
        · rw [u48, v48, jF, ofk]
        · rw [u49, v49, jO 49 (Or.inr rfl) (by decide)]
        · rw [v22, v48, Qq.1]
      · rw [f1] at jF jO v22
        refine ⟨fun z => by omega, fun _ => ⟨?_, ?_, ?_⟩⟩
        · rw [u49, v49, jF, ofk]
        · rw [u48, v48, jO 48 (Or.inl rfl) (by decide)]
        · rw [v22, v49, Qq.2]
    -- the class's row
    have bX := BSE.at L c (w10.bse hBS) w hw
    rw [row_at hxw bX.1 bX.2.1 bX.2.2 e23] at e
    have e' : ((f_X6_addJump N X w.2.1 xc).bind fun p29 => (if xc = 0 then if oK p29.2 w.2.1 0 then (f_X7_leave N p29.2 (CS.o p29.2 w.2.1 9) (CS.o p29.2 w.2.1 2)).bind fun p35 => f_X7_jump_129 N p35.2 else none else if oK p29.2 w.2.1 0 then (f_X7_leave N p29.2 (CS.o p29.2 w.2.1 10) (CS.o p29.2 w.2.1 2)).bind fun p40 => f_X7_jump_129 N p40.2 else none)) = some R := e
    obtain ⟨p29, e29, e'⟩ := hf_bind e'
    obtain ⟨j1, j2, j3, j4, -, -, j7, -⟩ := id cX.2.2.1
    obtain ⟨k1, k2, k3, k4, k5⟩ := j7 w hw
    obtain ⟨sx1, sx2, sx3, sx4, sx5, sx6⟩ := id cX.1.sj
    have hi11 := i11_hi cX.1
    obtain ⟨s01, s02, s03, s04, s05, s06⟩ := id hv.sj
    have x11 := w10.2.2.2.2.2.2.1.1
    obtain ⟨a1, a2, a3, a4, a5, a6, a7, a8, a9⟩ := e_addJ hbc ⟨by omega, by omega⟩ ⟨by omega, by omega⟩ e29
    have x44 : X.i 44 = v.i 11 := cX.1.1.2.2.2.1.1
    have s44 : S.i 44 = s.i 11 := hv.1.2.2.2.1.1
    have u11 : J1.i 11 = v.i 11 := Ev.1 11 (by decide)
    have ev2 : ENV d p29.2 J1 := by
      refine o3.gx (fun j _ _ _ _ _ h55 _ => a2 j h55) a6 a7 a8 (o3.ri.mv a1.1 a1.2.1 a1.2.2.1 (a2 53 (by decide)) a9 ?_ ?_) ?_ (by rw [a2 21 (by decide)]; exact o3.t21)
      · have z := o3.ri.2.2.2.2.2.2
        unfold sgI at *
        rw [a2 34 (by decide)]
        exact z
      · unfold eI plI
        rw [a2 43 (by decide), a2 44 (by decide)]
        exact Int.le_refl _
      · have z := o3.sj
        unfold SJB at *
        rw [a2 54 (by decide), a2 38 (by decide), a3, u11]
        rw [u11] at z
        rw [x55] at z ⊢
        exact ⟨z.1, z.2.1, by omega, by omega, z.2.2.2.2.1, z.2.2.2.2.2⟩
    have rt : RTE B p29.2 := by
      have z0 := hC.2.2.2.2.1.2.2.2.2.2.2.2.2.2.1
      have z1 := cX.2.2.2.2.1.2.2.2.2.2.2.2.2.2.1
      unfold RTE at *
      rw [a2 21 (by decide), a2 54 (by decide), a2 44 (by decide), a3, x55, x44]
      rw [x44] at z1
      rw [s44] at z0
      exact ⟨z1.1, z1.2.1, by omega⟩
    have cfr : CFR X v (c :: L) (b.i 20).toInt kk := by
      obtain ⟨b29, b30, b0, col, hc⟩ := id hC.2.2.2.2.2.2.2.2.2.2
      have z2 := hc.cof (by omega) hin w10.2.2.2.2.1 w10.2.2.1
      refine ⟨col, hc.mv b0 hin w10.2.2.2.2.1 w10.2.2.1 w10.2.2.2.1.1.r w10.2.2.2.1.2, ?_, fun j z hz => ?_, fun y hy t => ?_, fun y hy k p => ?_⟩
      · have z3 := z2.1 (kk : Int) (by omega)
        rw [Int.toNat_natCast] at z3
        exact z3
      · have := (hc.1 j z hz).2
        omega
      · have := z2.2.1 y hy t
        omega
      · have := z2.2.2 y hy k p
        omega
    have v20 : (kk : Int) < (v.i 20).toInt := by
      have z1 := w8.2.2.2.1.2.1
      rw [ej.1 20 (by decide), Qi, Ev.1 20 (by decide)] at z1
      omega
    obtain ⟨cR, tR, lR⟩ := cX.jmp tX lX (BOT.mv (c :: L) hB eoX) (BO2.mv (c :: L) hB2 eoX) a1 a2 a3 a4 a5 rt ev2 Ev hw (by rw [eoX w hw, ← eoP w hw]; exact gw) hb hd hj cfr ⟨by omega, v20⟩
    -- its instruction, the statement's end
    have lv : ∃ (Y : CS) (k : Bool), ENV d Y J1 ∧ CKX p29.2 Y ∧ R.2 = CS.setI Y 36 0 ∧ (k = true ↔ bb = 0) ∧ ∃ ww : Unit × CS, Y = ww.2 ∧ ((p29.2.o w.2.1 2 = p29.2.i 38 ∧ f_X0_add N p29.2 30 (if k = true then p29.2.o w.2.1 9 else p29.2.o w.2.1 10) = some ww) ∨ f_X0_add N p29.2 60 ((if k = true then p29.2.o w.2.1 9 else p29.2.o w.2.1 10) * 32 + p29.2.o w.2.1 2) = some ww) := by
      rcases hbc with ⟨cx, zb⟩ | ⟨cx, zb⟩
      · rw [if_pos cx] at e'
        obtain ⟨Y, y1, y2, y3, y4⟩ := y_leave ev2 (hf_ite e').2
        exact ⟨Y, true, y1, y2, y3, ⟨fun _ => zb, fun _ => rfl⟩, y4⟩
      · rw [if_neg (show ¬ xc = 0 by rw [cx]; decide)] at e'
        obtain ⟨Y, y1, y2, y3, y4⟩ := y_leave ev2 (hf_ite e').2
        exact ⟨Y, false, y1, y2, y3, ⟨fun z => by (cases z), fun z => by omega⟩, y4⟩
    obtain ⟨Y, kb, evY, ckY, eR, hkb, ww, eww, hww⟩ := lv
    obtain ⟨v1, v2, v3, v4, v5'', -, v7, v8, v9, v10⟩ := y_over evY w8.2.1 t9 ho
    have evR : ENV d (CS.setI Y 36 0) V := v1.gx (fun j _ h36 _ _ _ _ _ => ci_ne _ _ _ h36) ⟨rfl, rfl, rfl⟩ rfl rfl (v1.ri.mv rfl rfl rfl rfl ⟨rfl, rfl, rfl⟩ v1.ri.2.2.2.2.2.2 (Int.le_refl _)) v1.sj v1.t21
    obtain ⟨t1, t2, t3, t4, t5, t6', t7, t8, t9', t10⟩ := v4.1.1
    have o29 : p29.2.o c.2.1 = S.o c.2.1 := by rw [a1.2.1]; exact oX
    have hin2 : INL p29.2 J1 T (c :: L) := cR.inl tR (by rw [o29]; exact q3)
    have ckR : CKZ p29.2 (CS.setI Y 36 0) := ckY.z
    have rtR : RTE p29.2 (CS.setI Y 36 0) := ckY.2.2.2.2.2.2.2.2
    have i3 : (CS.setI Y 36 0).i 38 = p29.2.i 38 ∧ (CS.setI Y 36 0).i 53 = p29.2.i 53 ∧ (CS.setI Y 36 0).i 56 = p29.2.i 56 := ⟨ckY.1.2.2.1, ckY.1.2.2.2.2.1, ckY.1.2.2.2.2.2⟩
    have n8 := cR.2.2.2.2.2.2.2.2.1.2.1
    have eoR : (CS.setI Y 36 0).o c.2.1 = p29.2.o c.2.1 := (hin2.o ckR c List.mem_cons_self).1
    have cV := cR.mv hin2 hT evR (v3 T) v4.1.r v4.2 ⟨t1, t2, t3, t5, t6', t7, t8, t9', t10⟩ ckR i3 rtR ⟨by rw [v8]; exact Int.le_refl _, by rw [v7]; exact Int.le_refl _, by rw [v9]; exact Int.le_refl _, by rw [v10]⟩ (by rw [t4, v8]; exact n8) (by rw [t4]; exact Int.le_refl _)
    rw [eR]
    have e38 : V.i 38 = s.i 38 := t4.trans ((Ev.1 38 (by decide)).trans w10.2.2.2.1.1.1.2.2.2.1)
    refine Or.inr (Or.inr (Or.inr ⟨n, V, g, ⟨⟨cV, tR.mv eoR i3.2.1 t5 t7, lR.mv eoR (v3 T) (by rw [o29]; omega), v2, ⟨v5''.trans (ci_at Y 36 0).symm, Or.inl (ci_at Y 36 0)⟩, by rw [eoR, o29]; exact q3⟩, hm.dn hv evR e38 (eoR.trans o29)⟩, fun ku jw => ?_⟩))
    -- the code
    have o29w : ∀ y ∈ c :: L, p29.2.o y.2.1 = S.o y.2.1 := fun y hy => by rw [a1.2.1]; exact eoX y hy
    have veq : vws (CS.setI Y 36 0) V (c :: L) = vws S s (c :: L) := vws.eqf (T := T) (fun j hj => by
      have z1 := w10.nv.2 j hj
      have z2 := (v4.1.2.1 j (by rw [Ev.1 38 (by decide), w10.nv.1]; exact hj)).2.1
      rw [z2, Ev.A 40 (by decide)]
      exact z1) (c :: L) hC.o3 (fun y hy => ((hin2.o ckR y hy).1).trans (o29w y hy)) (fun k t h1 h2 h3 => ((v3 T).fld k t h1 h2 h3).trans ((by rw [Ev.A k (by omega)] : J1.a k t = v.a k t).trans (w10.2.2.1.fld k t h1 h2 h3))) (fun y hy => by
      have z1 := wid1 (S.o y.2.1 0)
      have z2 := (hin y hy).2.2.1
      omega)
    show JRW Aj U B b (vws (CS.setI Y 36 0) V (c :: L)) (CS.setI Y 36 0) V
    rw [veq]
    obtain ⟨L1, L2, hL⟩ := List.append_of_mem hw
    have hV0 : vws S s (c :: L) = vws S s L1 ++ vw S s w :: vws S s L2 := by
      unfold vws
      rw [hL, List.map_append]
      rfl
    have stS := hC.2.1
    have om : ∀ y ∈ c :: L, w.1 < y.1 → y ∈ L1 := fun y hy l => by
      rw [hL] at hy stS
      rcases List.mem_append.mp hy with z | z
      · exact z
      · rcases List.mem_cons.mp z with z | z
        · rw [z] at l
          omega
        · have := STK.om L1 _ _ _ stS y z
          omega
    have n3 : ∀ y ∈ c :: L, ¬ S.o y.2.1 0 = 305 := fun y hy => by
      rcases List.mem_cons.mp hy with z | z
      · rw [z]
        exact q2.1
      · exact STK.n305 L c _ _ _ stS y z
    obtain ⟨injS, ordS⟩ := STK.inj (c :: L) _ _ _ hC.2.1
    have gwS : isGo (S.o w.2.1 0) := by rw [← eoP w hw]; exact gw
    have gwl : ((ceG w : Nat) : Int) < (s.i 43).toInt := by
      have z1 := q1.2.1
      rcases List.mem_cons.mp hw with z | z
      · have n1 := nGo1 gwS
        rw [← z] at z1
        omega
      · have z2 := (ordS w hw c List.mem_cons_self (STK.ord L c _ _ _ hC.2.1 w z)).2.1
        have n1 := nGo1 gwS
        omega
    obtain ⟨jc, v43, jcf, jcp⟩ := jch_of (V := V) hkb hb (by omega) w10.2.2.2.1 Ev hd hj v4 gwl
    obtain ⟨pX1, pX2, pX3, pX4, pX5, pX6, pX7, pX8, pX9, pX10, pX11, pX12, pX38, pX50, -, -, -, -, -, -, pX48, pX49, -, -, -, -, -, pX21, -⟩ := pj_eq (o5.trans pj5)
    obtain ⟨aj48, aj49⟩ := aj_a e29
    have kep : pe p29.2 = pe P := (ke_X6_addJump N X w.2.1 xc p29 e29).trans keX
    have q44 : (P.i 44).toInt = (Q.i 11).toInt := by rw [w6.1.p44.1]
    have v11 := w9.2.2.2.2.2.2.1.1
    have x44' : (p29.2.i 44).toInt = (v.i 11).toInt := by rw [a2 44 (by decide), x44]
    have jr := (jg ku jw).cek 0 kep (by rw [a2 21 (by decide), pX21]) (by rw [aj48, pX48]) (by rw [aj49, pX49]) (by rw [a2 50 (by decide), pX50]) (by omega)
    rw [← pcC.pe kep] at jr
    have tv1 := w10.l11
    have tv2 := w10.l19
    have V11 : (V.i 11).toInt = (v.i 11).toInt := by rw [v8, u11]
    have V19 : (V.i 19).toInt = (v.i 19).toInt := by rw [v10, Ev.1 19 (by decide)]
    have nvV : NMV s V := ⟨e38, fun j hj' => by
      have z1 := w10.nv.2 j hj'
      have z2 := (v4.1.2.1 j (by rw [Ev.1 38 (by decide), w10.nv.1]; exact hj')).2.1
      rw [z2, Ev.A 40 (by decide)]
      exact z1⟩
    have tq := wq.2.2.2.1
    have q47 : q.a 47 (ceG w) = s.a 47 (ceG w) := ((GKP.tbk tq).2.1 (ceG w) gwl).2.2.2.2
    have y47 : yE.2.a 47 = q.a 47 := by
      obtain ⟨-, -, -, -, -, -, -, -, -, -, -, -, -, -, -, -, -, -, -, -, -, -, -, -, -, -, -, -, -, -, -, a47, -⟩ := qj_eq qE
      exact a47
    have qF : q.a F (ceG w) = jhd s (ceG w) kb := by
      obtain ⟨-, -, z1, z2, -⟩ := (GKP.tbk tq).2.1 (ceG w) gwl
      unfold jhd
      rcases hF with ⟨f1, f2⟩ | ⟨f1, f2⟩
      · rw [f1, if_pos (hkb.mpr f2)]
        exact z1
      · rw [f1, if_neg (fun z => by have := hkb.mp z; omega)]
        exact z2
    have p20 := wq.1.p20
    have kkp : kk = pcR q := by
      rw [hkk]
      rfl
    rw [kkp] at jc
    have qV : qe V = qe (RS.setA yE.2 23 (pcR q) (s.a 47 (ceG w))) := by
      rw [kre_f_X12_over N J1 0 V ho, qeJ1, qQ, hjE, hvE, v5, y47, q47]
      rfl
    have wmem : ∀ y ∈ L1, isWl (S.o y.2.1 0) → (s.a 66 (ceT y)).toNatClampNeg ∈ wly (vws S s L1) := fun y hy hwl => (wly.mem _ _).mpr ⟨vw S s y, List.mem_map.mpr ⟨y, hy, rfl⟩, hwl, by
      show (s.a 66 (ceT y)).toNatClampNeg = ((vw S s y).2.1 66).toNatClampNeg
      rw [vw_at (k := 66) ⟨by decide, by decide⟩]⟩
    have s66 : ∀ y ∈ c :: L, (vw S s y).2.1 66 = s.a 66 (ceT y) := fun y _ => (vw_at (k := 66) ⟨by decide, by decide⟩)
    subst eww
    refine jr.jmp (V1 := vws S s L1) (V2 := vws S s L2) (r := vw S s w) (k := kb) (x := if kb = true then p29.2.o w.2.1 9 else p29.2.o w.2.1 10) (p := ww) (R := CS.setI ww.2 36 0) (u := V) (by omega) (by omega) hV0 gwS (fun z => ?_) (fun y' hy' gy' eg' => ?_) (fun y' hy' => ?_) ?_ ?_ (by omega) hE qF ⟨p20.1, by omega⟩ ?_ rfl rfl rfl rfl rfl rfl (ci_at _ 36 0) qV (wq.nv.dif nvV) jc ?_ (by omega) (by omega)
    · show isLo (S.o w.2.1 0)
      rw [← eoP w hw]
      refine glo ?_
      rcases hb with y | y
      · have := hkb.mpr y
        rw [z] at this
        cases this
      · exact y
    · obtain ⟨y, hy, ey⟩ := List.mem_map.mp hy'
      rw [← ey] at gy' eg' ⊢
      have gy : isGo (S.o y.2.1 0) := gy'
      have eg : ceG y = ceG w := eg'
      have n1 := nGo1 gy
      have n2 := nGo1 gwS
      have : y.1 = w.1 := by
        rcases Nat.lt_trichotomy y.1 w.1 with z | z | z
        · have := (ordS y hy w hw z).2.1
          omega
        · exact z
        · have := (ordS w hw y hy z).2.1
          omega
      rw [injS y hy w hw this]
    · obtain ⟨y, hy, ey⟩ := List.mem_map.mp hy'
      rw [← ey]
      exact n3 y (by rw [hL]; exact List.mem_append_left _ hy)
    · show (if kb = true then p29.2.o w.2.1 9 else p29.2.o w.2.1 10) = if kb = true then S.o w.2.1 9 else S.o w.2.1 10
      rw [o29w w hw]
    · show (S.o w.2.1 2 = p29.2.i 38 ∧ _) ∨ f_X0_add N p29.2 60 (_ * 32 + S.o w.2.1 2) = some ww
      rw [← o29w w hw]
      exact hww
    · rw [a2 50 (by decide), pX50]
      exact wq.1.2.1.1
    · rcases hj with hj | hj
      · exact Or.inl (jcf hj)
      · obtain ⟨i, i1, i2, i3', i4⟩ := jcp hj
        obtain ⟨qq, hqq, t1', t2', t3', t4', t5'⟩ := TWL cX.2.1 tX (BO2.mv (c :: L) hB2 eoX) cX.2.2.2.2.2.1.2.1 (STK.glb L c _ _ _ cX.2.1 (BOT.mv (c :: L) hB eoX) w hw) hw hj
        rw [eoX qq hqq] at t1'
        have fq : v.a 66 (ceT qq) = s.a 66 (ceT qq) := w10.2.2.1.fld 66 (ceT qq) (by decide) (by decide) (by
          have z1 := wid1 (S.o qq.2.1 0)
          have z2 := (hin qq hqq).2.2.1
          omega)
        refine Or.inr ⟨i, i1, i2, i3', vw S s qq, List.mem_map.mpr ⟨qq, hqq, rfl⟩, isWl.ty t1', t2', ?_, ?_, fun r2 hr2 w1 w2 w3 => ?_⟩
        · rw [s66 qq hqq, i4, t4', fq]
        · rw [s66 qq hqq]
          exact wmem qq (om qq hqq t2') t1'
        · obtain ⟨y, hy, ey⟩ := List.mem_map.mp hr2
          rw [← ey] at w1 w2 w3 ⊢
          rw [s66 y hy]
          exact wmem y (om y hy w2) w1
