section
/-! both readers: a jump's end -/
theorem mul2 {x : Int32} (h0 : 0 ≤ x.toInt) (h1 : x.toInt < 1000000000) : (2 * x).toInt = 2 * x.toInt := by
  have e2 : (2 : Int32).toInt = 2 := by decide
  rw [Int32.toInt_mul, e2, Int.bmod_eq_of_le (by omega) (by omega)]
/-- the class: a jump's record -/
theorem e_addJ {N a : Nat} {X : CS} {xc : Int32} {bb : Int} {P : Unit × CS} (hb : (xc = 0 ∧ bb = 0) ∨ (xc = 1 ∧ bb = 1)) (h1 : 0 ≤ (X.o a 1).toInt ∧ (X.o a 1).toInt < 1000) (h55 : 0 ≤ (X.i 55).toInt ∧ (X.i 55).toInt < 160) (e : f_X6_addJump N X a xc = some P) : CRQ X P.2 ∧ (∀ k : Nat, k ≠ 55 → P.2.i k = X.i k) ∧ (P.2.i 55).toInt = (X.i 55).toInt + 1 ∧ (∀ i : Nat, ¬ (i : Int) = (X.i 55).toInt → P.2.a 52 i = X.a 52 i) ∧ (∀ i : Nat, (i : Int) = (X.i 55).toInt → (P.2.a 52 i).toInt = 2 * (X.o a 1).toInt + bb) ∧ (P.2.a 0 = X.a 0 ∧ P.2.a 9 = X.a 9 ∧ P.2.a 49 = X.a 49) ∧ P.2.b = X.b ∧ P.2.l = X.l ∧ (P.2.hs = X.hs ∧ P.2.L = X.L ∧ P.2.k = X.k) := by
  have e0 : (0 : Int32).toInt = 0 := by decide
  have e1 : (1 : Int32).toInt = 1 := by decide
  have m2 := mul2 h1.1 (by omega)
  unfold f_X6_addJump at e
  obtain ⟨j, ej, e⟩ := hf_bind e
  unfold f_X6_jumpTo at ej
  obtain ⟨-, ej⟩ := hf_ite ej
  have hj : j.2 = X ∧ j.1.toInt = 2 * (X.o a 1).toInt + bb := by
    rcases hb with ⟨z1, z2⟩ | ⟨z1, z2⟩
    · rw [if_pos z1] at ej
      rw [← Option.some.inj ej]
      refine ⟨rfl, ?_⟩
      show (2 * X.o a 1 + 0).toInt = _
      rw [toInt_add (by rw [m2, e0]; omega) (by rw [m2, e0]; omega), m2, e0, z2]
    · rw [if_neg (by rw [z1]; decide)] at ej
      rw [← Option.some.inj ej]
      refine ⟨rfl, ?_⟩
      show (2 * X.o a 1 + 1).toInt = _
      rw [toInt_add (by rw [m2, e1]; omega) (by rw [m2, e1]; omega), m2, e1, z2]
  rw [hj.1] at e
  have hP := Option.some.inj e
  have a52 : P.2.a 52 = upd (X.a 52) (X.i 55).toNatClampNeg j.1 := by
    rw [← hP]
    show gPut (X.a 52) 160 (X.i 55) j.1 = _
    unfold gPut
    exact if_pos ⟨h55.1, by omega⟩
  have n55 : (((X.i 55).toNatClampNeg : Nat) : Int) = (X.i 55).toInt := by
    show (((X.i 55).toInt.toNat : Nat) : Int) = _
    omega
  refine ⟨?_, fun k hk => ?_, ?_, fun i hi => ?_, fun i hi => ?_, ?_, ?_, ?_, ?_⟩
  · rw [← hP]
    exact ⟨rfl, rfl, rfl, rfl⟩
  · rw [← hP]
    exact ci_ne _ _ _ hk
  · rw [← hP]
    show (X.i 55 + 1).toInt = _
    exact ad1 h55.1 (by omega)
  · rw [a52]
    exact updN (by omega)
  · rw [a52, updA (by omega)]
    exact hj.2
  · rw [← hP]
    exact ⟨rfl, rfl, rfl⟩
  · rw [← hP]
    rfl
  · rw [← hP]
    rfl
  · rw [← hP]
    exact ⟨rfl, rfl, rfl⟩
/-- the class's instruction of a jump -/
theorem y_leave {N : Nat} {d : Int32} {X : CS} {s : RS} {x1 x2 : Int32} {R : Unit × CS} (hv : ENV d X s) (e : ((f_X7_leave N X x1 x2).bind fun p => f_X7_jump_129 N p.2) = some R) : ∃ Y : CS, ENV d Y s ∧ CKX X Y ∧ R.2 = CS.setI Y 36 0 ∧ ∃ ww : Unit × CS, Y = ww.2 ∧ ((x2 = X.i 38 ∧ f_X0_add N X 30 x1 = some ww) ∨ f_X0_add N X 60 (x1 * 32 + x2) = some ww) := by
  obtain ⟨p, ep, e⟩ := hf_bind e
  unfold f_X7_jump_129 at e
  have eR := Option.some.inj e
  unfold f_X7_leave at ep
  by_cases c : x2 = X.i 38
  · rw [if_pos c] at ep
    obtain ⟨w, ew, ep⟩ := hf_bind ep
    obtain ⟨a1, a2, -, -⟩ := y_add hv ew
    refine ⟨p.2, ?_, ?_, by rw [← eR], w, by rw [← Option.some.inj ep], Or.inl ⟨c, ew⟩⟩
    · rw [← Option.some.inj ep]
      exact a1
    · rw [← Option.some.inj ep]
      exact a2
  · rw [if_neg c] at ep
    obtain ⟨w, ew, ep⟩ := hf_bind ep
    obtain ⟨a1, a2, -, -⟩ := y_add hv ew
    refine ⟨p.2, ?_, ?_, by rw [← eR], w, by rw [← Option.some.inj ep], Or.inr ew⟩
    · rw [← Option.some.inj ep]
      exact a1
    · rw [← Option.some.inj ep]
      exact a2
theorem y_leaf {N : Nat} {X : CS} {x1 x2 : Int32} {R : Unit × CS} (hv : ¬ X.i 32 = 0) (e : ((f_X7_leave N X x1 x2).bind fun p => f_X7_jump_129 N p.2) = some R) : ¬ R.2.i 32 = 0 := by
  obtain ⟨p, ep, e⟩ := hf_bind e
  unfold f_X7_jump_129 at e
  rw [← Option.some.inj e]
  show ¬ (CS.setI p.2 36 0).i 32 = 0
  rw [ci_ne _ _ _ (by decide), kF_X7_leave N X x1 x2 p ep hv]
  exact hv
/-- the reference: the jump's instruction -/
theorem r_jins {N : Nat} {q J1 : RS} {xr x3 x4 : Int32} {w : CEL} {bb : Int} (hbx : (xr = 1 ∧ bb = 0) ∨ (xr = 0 ∧ bb = 1)) (hx4 : x4.toInt = (ceG w : Int)) (hJ : f_X12_jump_234 N q xr x3 x4 = some J1) : ∃ (F : Nat) (yE : Int32 × RS) (j : Nat) (v : Int32), (j = yE.1.toNatClampNeg ∧ v = yE.2.a 47 (ceG w)) ∧ ((F = 48 ∧ bb = 0) ∨ (F = 49 ∧ bb = 1)) ∧ f_X12_emit N q 36 (q.a F (ceG w)) = some yE ∧ f_X12_jump_302 N (RS.setA (RS.setA yE.2 23 j v) F (ceG w) yE.1) xr x3 x4 = some J1 := by
  have xn : x4.toNatClampNeg = ceG w := by
    show x4.toInt.toNat = ceG w
    omega
  unfold f_X12_jump_234 at hJ
  rcases hbx with ⟨z1, z2⟩ | ⟨z1, z2⟩
  · rw [z1, if_neg n10] at hJ
    rw [z1]
    obtain ⟨-, hJ⟩ := hf_ite hJ
    obtain ⟨y, hy, hJ⟩ := hf_bind hJ
    unfold f_X12_jump_263 at hJ
    obtain ⟨-, hJ⟩ := hf_ite hJ
    obtain ⟨-, hJ⟩ := hf_ite hJ
    rw [if_neg n10] at hJ
    rw [xn] at hy hJ
    exact ⟨48, y, _, _, ⟨rfl, rfl⟩, Or.inl ⟨rfl, z2⟩, hy, hJ⟩
  · rw [z1, if_pos rfl] at hJ
    rw [z1]
    obtain ⟨-, hJ⟩ := hf_ite hJ
    obtain ⟨y, hy, hJ⟩ := hf_bind hJ
    unfold f_X12_jump_263 at hJ
    obtain ⟨-, hJ⟩ := hf_ite hJ
    obtain ⟨-, hJ⟩ := hf_ite hJ
    rw [if_pos rfl] at hJ
    rw [xn] at hy hJ
    exact ⟨49, y, _, _, ⟨rfl, rfl⟩, Or.inr ⟨rfl, z2⟩, hy, hJ⟩
theorem STK.om {S : CS} {s : RS} {w : CEL} {L2 : List CEL} : ∀ (L1 : List CEL) (m e k : Int), STK S s (L1 ++ w :: L2) m e k → ∀ y ∈ L2, y.1 < w.1
  | [], m, e, k, h => STK.ord L2 w m e k h
  | _ :: L1, _, _, _, h => by
    obtain ⟨m', e', k', -, -, h3⟩ := h
    exact STK.om L1 m' e' k' h3
theorem STK.n305 {S : CS} {s : RS} : ∀ (L : List CEL) (c : CEL) (m e k : Int), STK S s (c :: L) m e k → ∀ y ∈ L, ¬ S.o y.2.1 0 = 305
  | [], _, _, _, _, _, y, hy => absurd hy List.not_mem_nil
  | c0 :: L, c, _, _, _, h, y, hy => by
    obtain ⟨m', e', k', -, h2, h3⟩ := h
    rcases List.mem_cons.mp hy with z | z
    · rw [z]
      exact (h2 c0 rfl).2.1
    · exact STK.n305 L c0 m' e' k' h3 y z
theorem jfl_flg {s : RS} {g : Nat} {k : Bool} {bb : Int} (h : k = true ↔ bb = 0) : jfl s g k = flg s g bb := by
  unfold jfl flg
  by_cases q : k = true
  · rw [if_pos q, if_pos (h.mp q)]
  · rw [if_neg q, if_neg (fun z => q (h.mpr z))]
/-- the class: a jump's record changes nothing of the code -/
theorem aj_a {N a : Nat} {X : CS} {xc : Int32} {P : Unit × CS} (e : f_X6_addJump N X a xc = some P) : P.2.a 48 = X.a 48 ∧ P.2.a 49 = X.a 49 := by
  unfold f_X6_addJump at e
  obtain ⟨j, ej, e⟩ := hf_bind e
  unfold f_X6_jumpTo at ej
  obtain ⟨-, ej⟩ := hf_ite ej
  have e2 : j.2 = X := by
    by_cases c : xc = 0
    · rw [if_pos c] at ej
      rw [← Option.some.inj ej]
    · rw [if_neg c] at ej
      rw [← Option.some.inj ej]
  rw [e2] at e
  rw [← Option.some.inj e]
  exact ⟨cpA_ne (by decide), cpA_ne (by decide)⟩
/-- what a jump changes beside the code, from the statement's begin to its end -/
theorem jch_of {w : CEL} {bb : Int} {k : Bool} {kk : Nat} {s v J V : RS} (hk : k = true ↔ bb = 0) (hb : bb = 0 ∨ bb = 1) (k31 : kk < 2147483648) (t1 : TBK s v) (ej : EJF v J) (hd : JHD w bb kk v J) (hj : JFL w bb v J ∨ JPD w bb v J) (t2 : TBK J V) (hw : ((ceG w : Nat) : Int) < (s.i 43).toInt) : JCH (ceG w) kk k s V ∧ V.i 43 = s.i 43 ∧ (JFL w bb v J → jfl V (ceG w) k = 1) ∧ (JPD w bb v J → ∃ i : Nat, (i : Int) < (V.i 59).toInt ∧ (V.a 60 i).toInt = (ceG w : Int) ∧ (¬ V.a 61 i = 0 ↔ k = true) ∧ V.a 62 i = v.a 57 ((v.i 56).toInt - 1).toNat) := by
  have ek : (Int32.ofNat kk).toInt = (kk : Int) := Int32.toInt_ofNat_of_lt (by omega)
  have g1 := GKP.tbk t1
  have g2 := GKP.tbk t2
  have i1 : v.i 43 = s.i 43 := t1.1.1.2.2.2.2.1
  have i2 : J.i 43 = v.i 43 := ej.1 43 (by decide)
  have i3 : V.i 43 = J.i 43 := t2.1.1.2.2.2.2.1
  have i4 : V.i 43 = s.i 43 := i3.trans (i2.trans i1)
  obtain ⟨p1, p2, -⟩ := pnd.up hj (ej.A 66 (by decide))
  have lt : ∀ j : Nat, (j : Int) < (s.i 43).toInt → (j : Int) < (J.i 43).toInt := fun j hj => by
    rw [i2, i1]
    exact hj
  have fl : ∀ (g' : Nat) (k' : Bool) (b' : Int), (k' = true ↔ b' = 0) → (g' : Int) < (s.i 43).toInt → jfl V g' k' = flg J g' b' ∧ jfl s g' k' = flg v g' b' := fun g' k' b' h h' => by
    obtain ⟨x1, x2, -⟩ := g2.2.1 g' (lt g' h')
    obtain ⟨y1, y2, -⟩ := g1.2.1 g' h'
    refine ⟨?_, ?_⟩
    · rw [← jfl_flg h]
      unfold jfl
      rw [x1, x2]
    · rw [← jfl_flg h]
      unfold jfl
      rw [y1, y2]
  have bo : ∀ k' : Bool, ∃ b' : Int, k' = true ↔ b' = 0 := fun k' => by
    cases k' with
    | true => exact ⟨0, fun _ => rfl, fun _ => rfl⟩
    | false => exact ⟨1, fun z => by (cases z), fun z => by omega⟩
  have hv : ∀ (g' : Nat), (g' : Int) < (s.i 43).toInt → V.a 48 g' = J.a 48 g' ∧ V.a 49 g' = J.a 49 g' ∧ v.a 48 g' = s.a 48 g' ∧ v.a 49 g' = s.a 49 g' := fun g' h' => by
    obtain ⟨-, -, x1, x2, -⟩ := g2.2.1 g' (lt g' h')
    obtain ⟨-, -, y1, y2, -⟩ := g1.2.1 g' h'
    exact ⟨x1, x2, y1, y2⟩
  refine ⟨⟨i4, fun g' k' h' hn => ?_, ?_, fun g' k' h' z => ?_, fun j hj' => ?_, ?_, fun j hj' => ?_⟩, i4, fun z => ?_, fun z => ?_⟩
  · obtain ⟨x1, x2, y1, y2⟩ := hv g' h'
    unfold jhd
    rw [x1, x2, ← y1, ← y2]
    cases k' with
    | true =>
      rw [if_pos rfl, if_pos rfl]
      rcases hb with z | z
      · have kt : k = true := hk.mpr z
        rw [(hd.1 z).1]
        exact updN (fun e => hn ⟨e, kt.symm⟩)
      · rw [(hd.2 z).2.1]
    | false =>
      rw [if_neg (by decide), if_neg (by decide)]
      rcases hb with z | z
      · rw [(hd.1 z).2.1]
      · have kf : k = false := by
          cases hkk : k with
          | true => have := hk.mp hkk; omega
          | false => rfl
        rw [(hd.2 z).1]
        exact updN (fun e => hn ⟨e, kf.symm⟩)
  · obtain ⟨x1, x2, -, -⟩ := hv (ceG w) hw
    unfold jhd
    rw [x1, x2]
    rcases hb with z | z
    · rw [if_pos (hk.mpr z), (hd.1 z).1, updA rfl]
      exact ek
    · rw [if_neg (fun q => by have := hk.mp q; omega), (hd.2 z).1, updA rfl]
      exact ek
  · obtain ⟨b', hb'⟩ := bo k'
    obtain ⟨z1, z2⟩ := fl g' k' b' hb' h'
    rw [z1]
    rw [z2] at z
    exact flg.up hj hb g' b' z
  · rw [(g2.2.1 j (lt j hj')).2.2.2.2, ej.A 47 (by decide)]
    exact (g1.2.1 j hj').2.2.2.2
  · have := g1.2.2.1
    have := g2.2.2.1
    omega
  · have l1 := g1.2.2.1
    obtain ⟨x1, x2, x3⟩ := g1.2.2.2 j hj'
    obtain ⟨y1, y2, y3⟩ := p2 j (by omega)
    obtain ⟨z1, z2, z3⟩ := g2.2.2.2 j (by omega)
    exact ⟨z1.trans (y1.trans x1), z2.trans (y2.trans x2), z3.trans (y3.trans x3)⟩
  · rw [(fl (ceG w) k bb hk hw).1]
    exact flg.at z hb
  · obtain ⟨-, -, ⟨n0, n1⟩, -, n3⟩ := z
    obtain ⟨i, hi⟩ : ∃ i : Nat, (i : Int) = (v.i 59).toInt := ⟨(v.i 59).toInt.toNat, by omega⟩
    obtain ⟨m1, m2, m3⟩ := n3 i hi
    obtain ⟨z1, z2, z3⟩ := g2.2.2.2 i (by omega)
    have l2 := g2.2.2.1
    exact ⟨i, by omega, by rw [z1]; exact m1, by rw [z2, m2]; exact hk.symm, by rw [z3]; exact m3⟩
set_option maxHeartbeats 4000000 in
theorem jp_fin {N : Nat} (hN : 1000 ≤ N) {d : Int32} {B : CS} {b : RS} {t0 T n : Nat} {L : List CEL} {x bb : Int} {S P P5 : CS} {s q J1 V U : RS} {c w : CEL} {xr xc x3 x4 xw : Int32} {R : Unit × CS} {Aj : JBA} (hC : COR d B b t0 (c :: L) x S s) (hS : STO c T S s) (hT : t0 ≤ T) (hm : NMC c S) (t9 : T < 1000) (hB : BOT b S (c :: L)) (hBS : BSE S (c :: L)) (hB2 : BO2 B b S (c :: L)) (wq : WAY d T 5 1 0 0 0 S s P q) (p55 : P.i 55 = S.i 55) (hw : w ∈ c :: L) (gw : isGo (P.o w.2.1 0)) (glo : bb = 1 → isLo (P.o w.2.1 0)) (jg : KU3 U s → JRW Aj U B b (vws S s (c :: L)) S s → JRG Aj U B b (vws S s (c :: L)) s [] (JQG U 1264 0 1 (pcC P) (pcR q) JQZ) (-1) (-1) P q) (hxw : xw.toInt = (w.1 : Int)) (hx4 : x4.toInt = (ceG w : Int)) (hbx : (xr = 1 ∧ xc = 0 ∧ bb = 0) ∨ (xr = 0 ∧ xc = 1 ∧ bb = 1)) (h3 : (x3 = 0 ∧ P5 = P) ∨ (x3 = 1 ∧ ¬ P.i 43 = 0 ∧ ∃ a : Unit × CS, f_X9_advance N P = some a ∧ P5 = a.2)) (e : f_X7_jump_72 N P5 xc xw = some R) (hJ : f_X12_jump_234 N q xr x3 x4 = some J1) (ho : f_X12_over N J1 0 = some V) (g : f_X12_parse_10 N n V = some U) : OUTS N d B b t0 T c L x R.2 U (JTR Aj U B b (c :: L) S s) := by
  obtain ⟨q1, q2, q3, q4, q5, q6⟩ := id hS
  have hv := hC.1
  have ph3 : 3 ≤ phI s := by
    have a := hC.2.2.2.2.2.2.1.2.1
    have b := (PDM.ge S (c :: L)).1
    have e := hC.2.2.2.2.2.2.2.2.2.2.2.1
    omega
  have nph := wq.2.2.2.2.2.2.1.2.1
  have hb : bb = 0 ∨ bb = 1 := by omega
  have hbr : (xr = 1 ∧ bb = 0) ∨ (xr = 0 ∧ bb = 1) := by
    rcases hbx with ⟨z1, z2, z3⟩ | ⟨z1, z2, z3⟩
    · exact Or.inl ⟨z1, z3⟩
    · exact Or.inr ⟨z1, z3⟩
  have hbc : (xc = 0 ∧ bb = 0) ∨ (xc = 1 ∧ bb = 1) := by
    rcases hbx with ⟨z1, z2, z3⟩ | ⟨z1, z2, z3⟩
    · exact Or.inl ⟨z2, z3⟩
    · exact Or.inr ⟨z2, z3⟩
  -- the reference's instruction
  obtain ⟨F, yE, jE, vE, ⟨hjE, hvE⟩, hF, hE, hJ2⟩ := r_jins hbr hx4 hJ
  obtain ⟨w5, -, v5, l20, -⟩ := wq.em (by omega) hE
  have m22 := em_22 wq.1 (by omega) hE
  have qE : qj yE.2 = qj q := (qj2_eq (em_env wq.1 (by omega) hE).2.2.1).1
  have w6 := (w5.s23 (j := jE) (v := vE)).nu (p' := 5) (f' := 0) (k' := 0) (y' := 0) (z' := 0) (by omega) (by omega) (by omega) (by omega) (by omega)
  obtain ⟨Q, hQ⟩ : ∃ y, y = RS.setA yE.2 23 jE vE := ⟨_, rfl⟩
  have Qi : Q.i = yE.2.i := by rw [hQ]; rfl
  have Qa : ∀ m : Nat, m ≠ 23 → Q.a m = yE.2.a m := by
    rw [hQ]
    exact fun m hm => setA_nk hm
  have qQ : qe Q = qe (RS.setA yE.2 23 jE vE) := by rw [hQ]
  rw [← hQ] at hJ2 w6
  clear hQ
  unfold f_X12_jump_302 at hJ2
  obtain ⟨J, hJp, hJ3⟩ := hf_bind hJ2
  have qJQ : qe J = qe Q := (kre_f_X12_pend N _ x4 xr J hJp).trans (by rcases hF with ⟨f1, -⟩ | ⟨f1, -⟩ <;> rw [f1] <;> rfl)
  obtain ⟨ej, ⟨jF, jO⟩, jj⟩ := jp_pend (F := F) (w := w) (bb := bb) (by omega) w6.1.wp.1.2.1 hx4 hbr hJp
  -- what stands before the jump
  obtain ⟨c6, t6, l6, o6⟩ := hC.way q1 q2 q3 hT w6 ⟨by omega, by omega, by omega, by omega, by omega⟩
  have hin := hC.inl q1 q3
  have eoP : ∀ y ∈ c :: L, P.o y.2.1 = S.o y.2.1 := fun y hy => (hin.o w6.2.2.2.2.1 y hy).1
  have glw := STK.glb L c _ _ _ c6.2.1 (BOT.mv (c :: L) hB eoP) w hw
  have evJ : ENV d P J := ej.env w6.1 (fun j hj => by
    obtain ⟨p1, p2, -⟩ := pnd.up jj (ej.A 66 (by decide))
    by_cases cj : (j : Int) < (Q.i 59).toInt
    · rw [(p2 j cj).2.2]
      exact w6.1.wp.2 j cj
    · rcases jj with j1 | j1
      · rw [j1.2.1] at hj
        exact absurd hj cj
      · obtain ⟨y, -, -, -, -, y1, y2⟩ := TWL c6.2.1 t6 (BO2.mv (c :: L) hB2 eoP) c6.2.2.2.2.2.1.2.1 glw hw j1
        have je : (j : Int) = (Q.i 59).toInt := by
          have := j1.2.2.1.2
          omega
        rw [(j1.2.2.2.2 j je).2.2, y1]
        exact y2)
  have tJ : tpI J = (T : Int) := by
    show (J.i 63).toInt = (T : Int)
    rw [ej.1 63 (by decide)]
    exact w6.2.1
  have wJ := WAY.rf evJ tJ w6.2.2.2.2.2.1.2.2.2.2
  have step : ∃ J2 : RS, f_X12_jump_317 N J2 = some J1 ∧ WAY d T 0 0 0 0 0 P J P5 J2 ∧ qj J2 = qj J ∧ J2.a 22 = J.a 22 ∧ pj P5 = pj P ∧ qe J2 = qe J ∧ pe P5 = pe P := by
    rcases h3 with ⟨z3, z5⟩ | ⟨z3, nz, a, ea, z5⟩
    · rw [z3, if_pos rfl] at hJ3
      rw [z5]
      exact ⟨J, hJ3, wJ, rfl, rfl, rfl, rfl, rfl⟩
    · rw [z3, if_neg n10] at hJ3
      obtain ⟨J2, h2, hJ4⟩ := hf_bind hJ3
      obtain ⟨a1, a2, a3, a4, a5, a6, a7, a8, a9, a10⟩ := evJ.adv hN nz ea h2
      rw [z5]
      exact ⟨J2, hJ4, (wJ.nx hN nz ea h2).1.nu (by omega) (by omega) (by omega) (by omega) (by omega), a2, a7, a3, kre_f_X12_next N J J2 h2, ke_X9_advance N P a ea⟩
  obtain ⟨J2, hJ5, w7, qJ2, aJ2, pj5, qeJ2, peP5⟩ := step
  unfold f_X12_jump_317 at hJ5
  obtain ⟨nd, hnd, hJ6⟩ := hf_bind hJ5
  have eJ1 : nd.2 = J1 := Option.some.inj hJ6
  unfold f_X7_jump_72 at e
  obtain ⟨p19, e19, e⟩ := hf_bind e
  obtain ⟨p23, e23, e⟩ := hf_bind e
  have brf : ∀ (X : CS) (a : Nat), ¬ X.i 32 = 0 → (if xc = 0 then if oK X a 0 then (f_X7_leave N X (CS.o X a 9) (CS.o X a 2)).bind fun p35 => f_X7_jump_129 N p35.2 else none else if oK X a 0 then (f_X7_leave N X (CS.o X a 10) (CS.o X a 2)).bind fun p40 => f_X7_jump_129 N p40.2 else none) = some R → ¬ R.2.i 32 = 0 := fun X a z h => by
    by_cases cx : xc = 0
    · rw [if_pos cx] at h
      exact y_leaf z (hf_ite h).2
    · rw [if_neg cx] at h
      exact y_leaf z (hf_ite h).2
  rcases y_need hN w7.1 (c := 59) (d := 59) (Or.inl ⟨by decide, by decide⟩) (by decide) (by decide) (by decide) e19 hnd with ⟨o1, o2, o3⟩ | ⟨o1, -, o3, o4, o5, -, o7, o8, o9, -⟩
  · refine Or.inl ⟨?_, u_flt g (krf_f_X12_over N J1 0 V ho (by rw [← eJ1]; exact o3))⟩
    obtain ⟨r1, -⟩ := e_row e23
    cases hp : p23.1 with
    | none =>
      rw [hp] at e
      have e' : f_X7_jump_129 N p23.2 = some R := e
      unfold f_X7_jump_129 at e'
      rw [← Option.some.inj e']
      show ¬ (CS.setI p23.2 36 0).i 32 = 0
      rw [ci_ne _ _ _ (by decide), r1]
      exact o2
    | some a =>
      rw [hp] at e
      have e' : ((f_X6_addJump N p23.2 a xc).bind fun p29 => (if xc = 0 then if oK p29.2 a 0 then (f_X7_leave N p29.2 (CS.o p29.2 a 9) (CS.o p29.2 a 2)).bind fun p35 => f_X7_jump_129 N p35.2 else none else if oK p29.2 a 0 then (f_X7_leave N p29.2 (CS.o p29.2 a 10) (CS.o p29.2 a 2)).bind fun p40 => f_X7_jump_129 N p40.2 else none)) = some R := e
      obtain ⟨p29, e29, e'⟩ := hf_bind e'
      have z1 : ¬ p23.2.i 32 = 0 := by rw [r1]; exact o2
      refine brf p29.2 a ?_ e'
      rw [kF_X6_addJump N p23.2 a xc p29 e29 z1]
      exact z1
  · rcases w7.nd hN (c := 59) (e := 59) (Or.inl ⟨by decide, by decide⟩) (by decide) (by decide) (by decide) e19 hnd with ⟨z, -⟩ | ⟨-, w8, -⟩
    · exact absurd (z.symm.trans o1) (by decide)
    rw [eJ1] at w8 o3 o4 o7 o8 o9
    have w9 := WAY.ej ej w6.1 w8
    have w10 := w6.tr w9
    obtain ⟨X, hX⟩ : ∃ X, X = p19.2 := ⟨_, rfl⟩
    have keX : pe X = pe P := by rw [hX]; exact (ke_X1_expect N P5 59 p19 e19).trans peP5
    have qeJ1 : qe J1 = qe Q := by rw [← eJ1]; exact ((kre_f_X12_need N J2 59 nd hnd).trans qeJ2).trans qJQ
    have Ev := sj.ej Q J1
    obtain ⟨v, hvv⟩ : ∃ v, v = sj Q J1 := ⟨_, rfl⟩
    have v59 : v.i 59 = Q.i 59 := by rw [hvv]; rfl
    have va : ∀ k : Nat, isJ k → v.a k = Q.a k := fun k hk => by
      rw [hvv]
      exact sj.a hk
    rw [← hvv] at w9 w10 Ev
    rw [← hX] at w8 w9 w10 o3 o5 e23
    clear hvv hX
    obtain ⟨cX, tX, lX, oX⟩ := hC.way q1 q2 q3 hT w10 ⟨by omega, by omega, by omega, by omega, by omega⟩
    have eoX : ∀ y ∈ c :: L, X.o y.2.1 = S.o y.2.1 := fun y hy => (hin.o w10.2.2.2.2.1 y hy).1
    obtain ⟨u59, ⟨u48, u49⟩, u5, u56, u57, u58⟩ := qj_jp (o4.trans qJ2)
    have x55 : X.i 55 = S.i 55 := (pj_55 o5).trans ((pj_55 pj5).trans p55)
    have s20 := wq.2.2.2.1.2.1
    have b20 := hC.2.2.2.2.2.1.2.2.1.1
    have q20 : 0 ≤ (q.i 20).toInt := wq.1.2.2.2.2.2.2.1
    have q20' := Int32.toInt_lt (q.i 20)
    -- the instruction's place
    obtain ⟨kk, hkk⟩ : ∃ kk : Nat, kk = (q.i 20).toNatClampNeg := ⟨_, rfl⟩
    have kk' : (kk : Int) = (q.i 20).toInt := by
      rw [hkk]
      show (((q.i 20).toInt.toNat : Nat) : Int) = _
      omega
    have ofk : Int32.ofNat kk = yE.1 := by
      rw [v5]
      apply Int32.toInt_inj.mp
      rw [Int32.toInt_ofNat_of_lt (by omega)]
      exact kk'
    rw [← hkk] at m22
    have v22 : v.a 22 kk = q.a F (ceG w) := by
      rw [← Ev.A 22 (by decide), o9, aJ2, ej.A 22 (by decide), Qa 22 (by decide)]
      exact m22
    have vi : ∀ k : Nat, k ≠ 59 → J1.i k = J.i k → v.i k = Q.i k := fun k hk h => by
      rw [← Ev.1 k hk, h, ej.1 k hk]
    have v56 := vi 56 (by decide) u56
    have v57 : v.a 57 = Q.a 57 := by rw [← Ev.A 57 (by decide), u57, ej.A 57 (by decide)]
    have v58 : v.a 58 = Q.a 58 := by rw [← Ev.A 58 (by decide), u58, ej.A 58 (by decide)]
    have v5' : v.a 50 = Q.a 50 ∧ v.a 51 = Q.a 51 ∧ v.a 60 = Q.a 60 ∧ v.a 61 = Q.a 61 ∧ v.a 62 = Q.a 62 := ⟨va 50 (by decide), va 51 (by decide), va 60 (by decide), va 61 (by decide), va 62 (by decide)⟩
    have hj : JFL w bb v J1 ∨ JPD w bb v J1 := by
      rcases jj with j1 | j1
      · exact Or.inl (j1.tr v56 v58 v59 u59 v5' u5)
      · exact Or.inr (j1.tr v56 v58 v57 v59 u59 v5' u5)
    have Qq : Q.a 48 = q.a 48 ∧ Q.a 49 = q.a 49 := by
      rw [Qa 48 (by decide), Qa 49 (by decide)]
      exact (qj_jp qE).2.1
    have hd : JHD w bb kk v J1 := by
      have v48 := va 48 (by decide)
      have v49 := va 49 (by decide)
      rcases hF with ⟨f1, f2⟩ | ⟨f1, f2⟩
      · rw [f1] at jF jO v22
        refine ⟨fun _ => ⟨?_, ?_, ?_⟩, fun z => by omega⟩
        · rw [u48, v48, jF, ofk]
        · rw [u49, v49, jO 49 (Or.inr rfl) (by decide)]
        · rw [v22, v48, Qq.1]
      · rw [f1] at jF jO v22
        refine ⟨fun z => by omega, fun _ => ⟨?_, ?_, ?_⟩⟩
        · rw [u49, v49, jF, ofk]
        · rw [u48, v48, jO 48 (Or.inl rfl) (by decide)]
        · rw [v22, v49, Qq.2]
    -- the class's row
    have bX := BSE.at L c (w10.bse hBS) w hw
    rw [row_at hxw bX.1 bX.2.1 bX.2.2 e23] at e
    have e' : ((f_X6_addJump N X w.2.1 xc).bind fun p29 => (if xc = 0 then if oK p29.2 w.2.1 0 then (f_X7_leave N p29.2 (CS.o p29.2 w.2.1 9) (CS.o p29.2 w.2.1 2)).bind fun p35 => f_X7_jump_129 N p35.2 else none else if oK p29.2 w.2.1 0 then (f_X7_leave N p29.2 (CS.o p29.2 w.2.1 10) (CS.o p29.2 w.2.1 2)).bind fun p40 => f_X7_jump_129 N p40.2 else none)) = some R := e
    obtain ⟨p29, e29, e'⟩ := hf_bind e'
    obtain ⟨j1, j2, j3, j4, -, -, j7, -⟩ := id cX.2.2.1
    obtain ⟨k1, k2, k3, k4, k5⟩ := j7 w hw
    obtain ⟨sx1, sx2, sx3, sx4, sx5, sx6⟩ := id cX.1.sj
    have hi11 := i11_hi cX.1
    obtain ⟨s01, s02, s03, s04, s05, s06⟩ := id hv.sj
    have x11 := w10.2.2.2.2.2.2.1.1
    obtain ⟨a1, a2, a3, a4, a5, a6, a7, a8, a9⟩ := e_addJ hbc ⟨by omega, by omega⟩ ⟨by omega, by omega⟩ e29
    have x44 : X.i 44 = v.i 11 := cX.1.1.2.2.2.1.1
    have s44 : S.i 44 = s.i 11 := hv.1.2.2.2.1.1
    have u11 : J1.i 11 = v.i 11 := Ev.1 11 (by decide)
    have ev2 : ENV d p29.2 J1 := by
      refine o3.gx (fun j _ _ _ _ _ h55 _ => a2 j h55) a6 a7 a8 (o3.ri.mv a1.1 a1.2.1 a1.2.2.1 (a2 53 (by decide)) a9 ?_ ?_) ?_ (by rw [a2 21 (by decide)]; exact o3.t21)
      · have z := o3.ri.2.2.2.2.2.2
        unfold sgI at *
        rw [a2 34 (by decide)]
        exact z
      · unfold eI plI
        rw [a2 43 (by decide), a2 44 (by decide)]
        exact Int.le_refl _
      · have z := o3.sj
        unfold SJB at *
        rw [a2 54 (by decide), a2 38 (by decide), a3, u11]
        rw [u11] at z
        rw [x55] at z ⊢
        exact ⟨z.1, z.2.1, by omega, by omega, z.2.2.2.2.1, z.2.2.2.2.2⟩
    have rt : RTE B p29.2 := by
      have z0 := hC.2.2.2.2.1.2.2.2.2.2.2.2.2.2.1
      have z1 := cX.2.2.2.2.1.2.2.2.2.2.2.2.2.2.1
      unfold RTE at *
      rw [a2 21 (by decide), a2 54 (by decide), a2 44 (by decide), a3, x55, x44]
      rw [x44] at z1
      rw [s44] at z0
      exact ⟨z1.1, z1.2.1, by omega⟩
    have cfr : CFR X v (c :: L) (b.i 20).toInt kk := by
      obtain ⟨b29, b30, b0, col, hc⟩ := id hC.2.2.2.2.2.2.2.2.2.2
      have z2 := hc.cof (by omega) hin w10.2.2.2.2.1 w10.2.2.1
      refine ⟨col, hc.mv b0 hin w10.2.2.2.2.1 w10.2.2.1 w10.2.2.2.1.1.r w10.2.2.2.1.2, ?_, fun j z hz => ?_, fun y hy t => ?_, fun y hy k p => ?_⟩
      · have z3 := z2.1 (kk : Int) (by omega)
        rw [Int.toNat_natCast] at z3
        exact z3
      · have := (hc.1 j z hz).2
        omega
      · have := z2.2.1 y hy t
        omega
      · have := z2.2.2 y hy k p
        omega
    have v20 : (kk : Int) < (v.i 20).toInt := by
      have z1 := w8.2.2.2.1.2.1
      rw [ej.1 20 (by decide), Qi, Ev.1 20 (by decide)] at z1
      omega
    obtain ⟨cR, tR, lR⟩ := cX.jmp tX lX (BOT.mv (c :: L) hB eoX) (BO2.mv (c :: L) hB2 eoX) a1 a2 a3 a4 a5 rt ev2 Ev hw (by rw [eoX w hw, ← eoP w hw]; exact gw) hb hd hj cfr ⟨by omega, v20⟩
    -- its instruction, the statement's end
    have lv : ∃ (Y : CS) (k : Bool), ENV d Y J1 ∧ CKX p29.2 Y ∧ R.2 = CS.setI Y 36 0 ∧ (k = true ↔ bb = 0) ∧ ∃ ww : Unit × CS, Y = ww.2 ∧ ((p29.2.o w.2.1 2 = p29.2.i 38 ∧ f_X0_add N p29.2 30 (if k = true then p29.2.o w.2.1 9 else p29.2.o w.2.1 10) = some ww) ∨ f_X0_add N p29.2 60 ((if k = true then p29.2.o w.2.1 9 else p29.2.o w.2.1 10) * 32 + p29.2.o w.2.1 2) = some ww) := by
      rcases hbc with ⟨cx, zb⟩ | ⟨cx, zb⟩
      · rw [if_pos cx] at e'
        obtain ⟨Y, y1, y2, y3, y4⟩ := y_leave ev2 (hf_ite e').2
        exact ⟨Y, true, y1, y2, y3, ⟨fun _ => zb, fun _ => rfl⟩, y4⟩
      · rw [if_neg (show ¬ xc = 0 by rw [cx]; decide)] at e'
        obtain ⟨Y, y1, y2, y3, y4⟩ := y_leave ev2 (hf_ite e').2
        exact ⟨Y, false, y1, y2, y3, ⟨fun z => by (cases z), fun z => by omega⟩, y4⟩
    obtain ⟨Y, kb, evY, ckY, eR, hkb, ww, eww, hww⟩ := lv
    obtain ⟨v1, v2, v3, v4, v5'', -, v7, v8, v9, v10⟩ := y_over evY w8.2.1 t9 ho
    have evR : ENV d (CS.setI Y 36 0) V := v1.gx (fun j _ h36 _ _ _ _ _ => ci_ne _ _ _ h36) ⟨rfl, rfl, rfl⟩ rfl rfl (v1.ri.mv rfl rfl rfl rfl ⟨rfl, rfl, rfl⟩ v1.ri.2.2.2.2.2.2 (Int.le_refl _)) v1.sj v1.t21
    obtain ⟨t1, t2, t3, t4, t5, t6', t7, t8, t9', t10⟩ := v4.1.1
    have o29 : p29.2.o c.2.1 = S.o c.2.1 := by rw [a1.2.1]; exact oX
    have hin2 : INL p29.2 J1 T (c :: L) := cR.inl tR (by rw [o29]; exact q3)
    have ckR : CKZ p29.2 (CS.setI Y 36 0) := ckY.z
    have rtR : RTE p29.2 (CS.setI Y 36 0) := ckY.2.2.2.2.2.2.2.2
    have i3 : (CS.setI Y 36 0).i 38 = p29.2.i 38 ∧ (CS.setI Y 36 0).i 53 = p29.2.i 53 ∧ (CS.setI Y 36 0).i 56 = p29.2.i 56 := ⟨ckY.1.2.2.1, ckY.1.2.2.2.2.1, ckY.1.2.2.2.2.2⟩
    have n8 := cR.2.2.2.2.2.2.2.2.1.2.1
    have eoR : (CS.setI Y 36 0).o c.2.1 = p29.2.o c.2.1 := (hin2.o ckR c List.mem_cons_self).1
    have cV := cR.mv hin2 hT evR (v3 T) v4.1.r v4.2 ⟨t1, t2, t3, t5, t6', t7, t8, t9', t10⟩ ckR i3 rtR ⟨by rw [v8]; exact Int.le_refl _, by rw [v7]; exact Int.le_refl _, by rw [v9]; exact Int.le_refl _, by rw [v10]⟩ (by rw [t4, v8]; exact n8) (by rw [t4]; exact Int.le_refl _)
    rw [eR]
    have e38 : V.i 38 = s.i 38 := t4.trans ((Ev.1 38 (by decide)).trans w10.2.2.2.1.1.1.2.2.2.1)
    refine Or.inr (Or.inr (Or.inr ⟨n, V, g, ⟨⟨cV, tR.mv eoR i3.2.1 t5 t7, lR.mv eoR (v3 T) (by rw [o29]; omega), v2, ⟨v5''.trans (ci_at Y 36 0).symm, Or.inl (ci_at Y 36 0)⟩, by rw [eoR, o29]; exact q3⟩, hm.dn hv evR e38 (eoR.trans o29)⟩, fun ku jw => ?_⟩))
    -- the code
    have o29w : ∀ y ∈ c :: L, p29.2.o y.2.1 = S.o y.2.1 := fun y hy => by rw [a1.2.1]; exact eoX y hy
    have veq : vws (CS.setI Y 36 0) V (c :: L) = vws S s (c :: L) := vws.eqf (T := T) (fun j hj => by
      have z1 := w10.nv.2 j hj
      have z2 := (v4.1.2.1 j (by rw [Ev.1 38 (by decide), w10.nv.1]; exact hj)).2.1
      rw [z2, Ev.A 40 (by decide)]
      exact z1) (c :: L) hC.o3 (fun y hy => ((hin2.o ckR y hy).1).trans (o29w y hy)) (fun k t h1 h2 h3 => ((v3 T).fld k t h1 h2 h3).trans ((by rw [Ev.A k (by omega)] : J1.a k t = v.a k t).trans (w10.2.2.1.fld k t h1 h2 h3))) (fun y hy => by
      have z1 := wid1 (S.o y.2.1 0)
      have z2 := (hin y hy).2.2.1
      omega)
    show JRW Aj U B b (vws (CS.setI Y 36 0) V (c :: L)) (CS.setI Y 36 0) V
    rw [veq]
    obtain ⟨L1, L2, hL⟩ := List.append_of_mem hw
    have hV0 : vws S s (c :: L) = vws S s L1 ++ vw S s w :: vws S s L2 := by
      unfold vws
      rw [hL, List.map_append]
      rfl
    have stS := hC.2.1
    have om : ∀ y ∈ c :: L, w.1 < y.1 → y ∈ L1 := fun y hy l => by
      rw [hL] at hy stS
      rcases List.mem_append.mp hy with z | z
      · exact z
      · rcases List.mem_cons.mp z with z | z
        · rw [z] at l
          omega
        · have := STK.om L1 _ _ _ stS y z
          omega
    have n3 : ∀ y ∈ c :: L, ¬ S.o y.2.1 0 = 305 := fun y hy => by
      rcases List.mem_cons.mp hy with z | z
      · rw [z]
        exact q2.1
      · exact STK.n305 L c _ _ _ stS y z
    obtain ⟨injS, ordS⟩ := STK.inj (c :: L) _ _ _ hC.2.1
    have gwS : isGo (S.o w.2.1 0) := by rw [← eoP w hw]; exact gw
    have gwl : ((ceG w : Nat) : Int) < (s.i 43).toInt := by
      have z1 := q1.2.1
      rcases List.mem_cons.mp hw with z | z
      · have n1 := nGo1 gwS
        rw [← z] at z1
        omega
      · have z2 := (ordS w hw c List.mem_cons_self (STK.ord L c _ _ _ hC.2.1 w z)).2.1
        have n1 := nGo1 gwS
        omega
    obtain ⟨jc, v43, jcf, jcp⟩ := jch_of (V := V) hkb hb (by omega) w10.2.2.2.1 Ev hd hj v4 gwl
    obtain ⟨pX1, pX2, pX3, pX4, pX5, pX6, pX7, pX8, pX9, pX10, pX11, pX12, pX38, pX50, -, -, -, -, -, -, pX48, pX49, -, -, -, -, -, pX21, -⟩ := pj_eq (o5.trans pj5)
    obtain ⟨aj48, aj49⟩ := aj_a e29
    have kep : pe p29.2 = pe P := (ke_X6_addJump N X w.2.1 xc p29 e29).trans keX
    have q44 : (P.i 44).toInt = (Q.i 11).toInt := by rw [w6.1.p44.1]
    have v11 := w9.2.2.2.2.2.2.1.1
    have x44' : (p29.2.i 44).toInt = (v.i 11).toInt := by rw [a2 44 (by decide), x44]
    have jr := (jg ku jw).cek 0 kep (by rw [a2 21 (by decide), pX21]) (by rw [aj48, pX48]) (by rw [aj49, pX49]) (by rw [a2 50 (by decide), pX50]) (by omega)
    rw [← pcC.pe kep] at jr
    have tv1 := w10.l11
    have tv2 := w10.l19
    have V11 : (V.i 11).toInt = (v.i 11).toInt := by rw [v8, u11]
    have V19 : (V.i 19).toInt = (v.i 19).toInt := by rw [v10, Ev.1 19 (by decide)]
    have nvV : NMV s V := ⟨e38, fun j hj' => by
      have z1 := w10.nv.2 j hj'
      have z2 := (v4.1.2.1 j (by rw [Ev.1 38 (by decide), w10.nv.1]; exact hj')).2.1
      rw [z2, Ev.A 40 (by decide)]
      exact z1⟩
    have tq := wq.2.2.2.1
    have q47 : q.a 47 (ceG w) = s.a 47 (ceG w) := ((GKP.tbk tq).2.1 (ceG w) gwl).2.2.2.2
    have y47 : yE.2.a 47 = q.a 47 := by
      obtain ⟨-, -, -, -, -, -, -, -, -, -, -, -, -, -, -, -, -, -, -, -, -, -, -, -, -, -, -, -, -, -, -, a47, -⟩ := qj_eq qE
      exact a47
    have qF : q.a F (ceG w) = jhd s (ceG w) kb := by
      obtain ⟨-, -, z1, z2, -⟩ := (GKP.tbk tq).2.1 (ceG w) gwl
      unfold jhd
      rcases hF with ⟨f1, f2⟩ | ⟨f1, f2⟩
      · rw [f1, if_pos (hkb.mpr f2)]
        exact z1
      · rw [f1, if_neg (fun z => by have := hkb.mp z; omega)]
        exact z2
    have p20 := wq.1.p20
    have kkp : kk = pcR q := by
      rw [hkk]
      rfl
    rw [kkp] at jc
    have qV : qe V = qe (RS.setA yE.2 23 (pcR q) (s.a 47 (ceG w))) := by
      rw [kre_f_X12_over N J1 0 V ho, qeJ1, qQ, hjE, hvE, v5, y47, q47]
      rfl
    have wmem : ∀ y ∈ L1, isWl (S.o y.2.1 0) → (s.a 66 (ceT y)).toNatClampNeg ∈ wly (vws S s L1) := fun y hy hwl => (wly.mem _ _).mpr ⟨vw S s y, List.mem_map.mpr ⟨y, hy, rfl⟩, hwl, by
      show (s.a 66 (ceT y)).toNatClampNeg = ((vw S s y).2.1 66).toNatClampNeg
      rw [vw_at (k := 66) ⟨by decide, by decide⟩]⟩
    have s66 : ∀ y ∈ c :: L, (vw S s y).2.1 66 = s.a 66 (ceT y) := fun y _ => (vw_at (k := 66) ⟨by decide, by decide⟩)
    subst eww
    refine jr.jmp (V1 := vws S s L1) (V2 := vws S s L2) (r := vw S s w) (k := kb) (x := if kb = true then p29.2.o w.2.1 9 else p29.2.o w.2.1 10) (p := ww) (R := CS.setI ww.2 36 0) (u := V) (by omega) (by omega) hV0 gwS (fun z => ?_) (fun y' hy' gy' eg' => ?_) (fun y' hy' => ?_) ?_ ?_ (by omega) hE qF ⟨p20.1, by omega⟩ ?_ rfl rfl rfl rfl rfl rfl (ci_at _ 36 0) qV (wq.nv.dif nvV) jc ?_ (by omega) (by omega)
    · show isLo (S.o w.2.1 0)
      rw [← eoP w hw]
      refine glo ?_
      rcases hb with y | y
      · have := hkb.mpr y
        rw [z] at this
        cases this
      · exact y
    · obtain ⟨y, hy, ey⟩ := List.mem_map.mp hy'
      rw [← ey] at gy' eg' ⊢
      have gy : isGo (S.o y.2.1 0) := gy'
      have eg : ceG y = ceG w := eg'
      have n1 := nGo1 gy
      have n2 := nGo1 gwS
      have : y.1 = w.1 := by
        rcases Nat.lt_trichotomy y.1 w.1 with z | z | z
        · have := (ordS y hy w hw z).2.1
          omega
        · exact z
        · have := (ordS w hw y hy z).2.1
          omega
      rw [injS y hy w hw this]
    · obtain ⟨y, hy, ey⟩ := List.mem_map.mp hy'
      rw [← ey]
      exact n3 y (by rw [hL]; exact List.mem_append_left _ hy)
    · show (if kb = true then p29.2.o w.2.1 9 else p29.2.o w.2.1 10) = if kb = true then S.o w.2.1 9 else S.o w.2.1 10
      rw [o29w w hw]
    · show (S.o w.2.1 2 = p29.2.i 38 ∧ _) ∨ f_X0_add N p29.2 60 (_ * 32 + S.o w.2.1 2) = some ww
      rw [← o29w w hw]
      exact hww
    · rw [a2 50 (by decide), pX50]
      exact wq.1.2.1.1
    · rcases hj with hj | hj
      · exact Or.inl (jcf hj)
      · obtain ⟨i, i1, i2, i3', i4⟩ := jcp hj
        obtain ⟨qq, hqq, t1', t2', t3', t4', t5'⟩ := TWL cX.2.1 tX (BO2.mv (c :: L) hB2 eoX) cX.2.2.2.2.2.1.2.1 (STK.glb L c _ _ _ cX.2.1 (BOT.mv (c :: L) hB eoX) w hw) hw hj
        rw [eoX qq hqq] at t1'
        have fq : v.a 66 (ceT qq) = s.a 66 (ceT qq) := w10.2.2.1.fld 66 (ceT qq) (by decide) (by decide) (by
          have z1 := wid1 (S.o qq.2.1 0)
          have z2 := (hin qq hqq).2.2.1
          omega)
        refine Or.inr ⟨i, i1, i2, i3', vw S s qq, List.mem_map.mpr ⟨qq, hqq, rfl⟩, isWl.ty t1', t2', ?_, ?_, fun r2 hr2 w1 w2 w3 => ?_⟩
        · rw [s66 qq hqq, i4, t4', fq]
        · rw [s66 qq hqq]
          exact wmem qq (om qq hqq t2') t1'
        · obtain ⟨y, hy, ey⟩ := List.mem_map.mp hr2
          rw [← ey] at w1 w2 w3 ⊢
          rw [s66 y hy]
          exact wmem y (om y hy w2) w1
end
section
/-! both readers: break and continue, whole -/
theorem WAY.pb {d : Int32} {T : Nat} {p p' f k y z : Int} {S P : CS} {s q : RS} (h : WAY d T p f k y z S s P q) (hp : (s.i 11).toInt + p' ≤ (q.i 11).toInt) : WAY d T p' f k y z S s P q := by
  obtain ⟨h1, h2, h3, h4, h5, i, ⟨h6, h7, h8, h9⟩, h10⟩ := h
  exact ⟨h1, h2, h3, h4, h5, i, ⟨hp, h7, h8, h9⟩, h10⟩
set_option maxHeartbeats 4000000 in
theorem st_jump {N : Nat} (hN : 1000 ≤ N) {d : Int32} {B : CS} {b : RS} {t0 T n : Nat} {L : List CEL} {x : Int} {S : CS} {s U : RS} {c : CEL} {p R : Unit × CS} {Aj : JBA} (hC : COR d B b t0 (c :: L) x S s) (hS : STO c T S s) (hT : t0 ≤ T) (hm : NMC c S) (hx : S.o c.2.1 0 = 303 → x = -1) (hB : BOT b S (c :: L)) (hBS : BSE S (c :: L)) (hB2 : BO2 B b S (c :: L)) (h43 : S.i 43 = 208 ∨ S.i 43 = 209) (e1 : f_X0_add N (CS.setI (CS.setI S 36 1) 24 ((S.i 24) + 1)) 51 0 = some p) (e : f_X7_jump N p.2 = some R) (g : f_X12_parse_10 N n s = some U) : OUTS N d B b t0 T c L x R.2 U (JTR Aj U B b (c :: L) S s) := by
  obtain ⟨q1, q2, q3, q4, q5, q6⟩ := id hS
  have hv := hC.1
  have ph3 : 3 ≤ phI s := by
    have a := hC.2.2.2.2.2.2.1.2.1
    have b := (PDM.ge S (c :: L)).1
    have e := hC.2.2.2.2.2.2.2.2.2.2.2.1
    omega
  have tk8 := tk_is hv (a := 208) (b := 418) (Or.inr ⟨by decide, by decide⟩) (by decide)
  have tk9 := tk_is hv (a := 209) (b := 419) (Or.inr ⟨by decide, by decide⟩) (by decide)
  obtain ⟨m1, V1, hV1, g1⟩ := rl_2 g q4 hv.1.2.1 q5
  have h10 : s.i 10 = 418 ∨ s.i 10 = 419 := by
    rcases h43 with z | z
    · exact Or.inl (tk8.mp z)
    · exact Or.inr (tk9.mp z)
  obtain ⟨t9, hV2⟩ := r_jst q4 hv.1.2.1 rfl h10 hV1
  have w0 := WAY.stm (K := 2) hv q4
  have qs0 : qe (RS.setA (RS.setI s 53 ((s.i 53) + 1)) 64 T 2) = qe s := rfl
  have ns0 : NMV s (RS.setA (RS.setI s 53 ((s.i 53) + 1)) 64 T 2) := ⟨rfl, fun _ _ => rfl⟩
  have kS0 : pe (CS.setI (CS.setI S 36 1) 24 ((S.i 24) + 1)) = pe S ∧ (CS.setI (CS.setI S 36 1) 24 ((S.i 24) + 1)).a = S.a := ⟨rfl, rfl⟩
  obtain ⟨s1, hs1⟩ : ∃ y, y = RS.setA (RS.setI s 53 ((s.i 53) + 1)) 64 T 2 := ⟨_, rfl⟩
  obtain ⟨S1, hS1⟩ : ∃ y, y = CS.setI (CS.setI S 36 1) 24 ((S.i 24) + 1) := ⟨_, rfl⟩
  have i1 : ∀ k : Nat, k ≠ 53 → s1.i k = s.i k := by
    rw [hs1]
    exact fun k h => if_neg h
  have iS : ∀ k : Nat, k ≠ 36 → k ≠ 24 → S1.i k = S.i k := by
    rw [hS1]
    exact fun k h1 h2 => (ci_ne _ _ _ h2).trans (ci_ne _ _ _ h1)
  rw [← hs1] at hV2 w0 qs0 ns0
  rw [← hS1] at e1 w0 kS0
  clear hs1 hS1
  have p1 : phI s1 = phI s := by
    unfold phI
    rw [i1 17 (by decide), i1 20 (by decide)]
  unfold f_X12_stat_309 at hV2
  obtain ⟨y, hy, hV2⟩ := hf_bind hV2
  obtain ⟨w1, -, -, -, y10⟩ := w0.em (by omega) hy
  have z11 := (y_emit w0.1 w0.2.1 (by omega) hy).2.2.2.2.2.2.2.1
  have w2 := w1.ad e1
  obtain ⟨-, -, j43, -⟩ := y_add w1.1 e1
  have kp := pj2_eq (kd_X0_add N S1 51 0 p e1)
  have j55 : p.2.i 55 = S.i 55 := (pj_55 kp.1).trans (iS 55 (by decide) (by decide))
  have p43 : p.2.i 43 = S.i 43 := j43.trans (iS 43 (by decide) (by decide))
  have y10' : y.2.i 10 = s.i 10 := y10.trans (i1 10 (by decide))
  rw [if_neg (show ¬ y.2.i 10 = 59 by rw [y10']; rcases h10 with z | z <;> rw [z] <;> decide)] at hV2
  obtain ⟨J1, hJ1, hV3⟩ := hf_bind hV2
  have ho : f_X12_over N J1 0 = some V1 := by
    obtain ⟨o, h1, h2⟩ := hf_bind hV3
    rw [h1, Option.some.inj h2]
  -- which of the two
  have both : ∃ (xr xc : Int32) (bb : Int), ((xr = 1 ∧ xc = 0 ∧ bb = 0) ∨ (xr = 0 ∧ xc = 1 ∧ bb = 1)) ∧ f_X12_jump_16 N y.2 xr = some J1 ∧ ((f_X9_advance N (CS.setI p.2 26 ((p.2.i 26) + 1))).bind fun p5 => (f_X1_found N p5.2 2).bind fun p9 => (if p9.1 = 0 then (f_X6_nearest N p9.2 xc).bind fun p14 => (if 0 ≤ p14.1 then f_X7_jump_72 N p14.2 xc p14.1 else (f_X1_fail N p14.2 5 (p.2.i 44)).bind fun p44 => f_X7_jump_72 N p44.2 xc p14.1) else (f_X7_labelTarget N p9.2 xc).bind fun p48 => f_X7_jump_72 N p48.2 xc p48.1)) = some R := by
    unfold f_X12_jump at hJ1
    unfold f_X7_jump at e
    obtain ⟨p1, ep1, e⟩ := hf_bind e
    rcases h43 with z | z
    · rw [e_fnd0 (show ¬ p.2.i 43 = 209 by rw [p43, z]; decide)] at ep1
      rw [← Option.some.inj ep1] at e
      rw [if_pos (y10'.trans (tk8.mp z))] at hJ1
      exact ⟨1, 0, 0, Or.inl ⟨rfl, rfl, rfl⟩, hJ1, e⟩
    · rw [e_fnd1 (show p.2.i 43 = 209 by rw [p43, z])] at ep1
      rw [← Option.some.inj ep1] at e
      rw [if_neg (show ¬ y.2.i 10 = 418 by rw [y10', tk9.mp z]; decide)] at hJ1
      exact ⟨0, 1, 1, Or.inr ⟨rfl, rfl, rfl⟩, hJ1, e⟩
  obtain ⟨xr, xc, bb, hbx, hJ2, e2⟩ := both
  clear e hJ1
  obtain ⟨p5, e5, e2⟩ := hf_bind e2
  obtain ⟨p9, e9, e2⟩ := hf_bind e2
  unfold f_X12_jump_16 at hJ2
  obtain ⟨q5', hq5, hJ2⟩ := hf_bind hJ2
  have w3 := w2.cj
  have P43 : (CS.setI p.2 26 (p.2.i 26 + 1)).i 43 = S.i 43 := by
    rw [ci_ne _ _ _ (by decide)]
    exact p43
  have nz3 : ¬ (CS.setI p.2 26 (p.2.i 26 + 1)).i 43 = 0 := by
    rw [P43]
    rcases h43 with z | z <;> rw [z] <;> decide
  obtain ⟨w4, -⟩ := w3.nx hN nz3 e5 hq5
  obtain ⟨-, -, -, b9⟩ := y_adv hN w3.1.1 e5 hq5
  obtain ⟨a1, a2, a3, -⟩ := w3.1.adv hN nz3 e5 hq5
  have lb5 : LB5 (CS.setI p.2 26 (p.2.i 26 + 1)) := w3.1.2.2.2.2.2.2.2.2.2.2.2.2.2.2.2.2.1
  have l5 := lb5.1 (Or.inl (by rw [P43]; exact h43))
  have k44 := w3.1.1.2.2.2.1.1
  have k42 := w3.1.1.2.2.2.1.2.1
  have z11' : (RS.setI y.2 55 (y.2.i 55 + 1)).i 11 = s.i 11 := by
    show y.2.i 11 = s.i 11
    exact z11.trans (i1 11 (by decide))
  rw [k44, k42, z11'] at l5
  have wq := (w4.pb (p' := 5) (by omega)).nu (p' := 5) (f' := 1) (k' := 0) (y' := 0) (z' := 0) (by omega) (by omega) (by omega) (by omega) (by omega)
  have x55 : p5.2.i 55 = S.i 55 := by
    rw [pj_55 a3, ci_ne _ _ _ (by decide)]
    exact j55
  have jg : KU3 U s → JRW Aj U B b (vws S s (c :: L)) S s → JRG Aj U B b (vws S s (c :: L)) s [] (JQG U 1264 0 1 (pcC p5.2) (pcR q5') JQZ) (-1) (-1) p5.2 q5' := fun _ jw => by
    have k44 : (S1.i 44).toInt = (s1.i 11).toInt := by rw [w0.1.p44.1]
    have k6 := (i11_hi w0.1).2
    have k20 := w0.1.p20
    have z1 : JRG Aj U B b (vws S s (c :: L)) s [] (JQA U 0 0 (pcC S1) (pcR s1) JQZ) 0 1 S1 s1 := ((((jw.go (e := 1) (Or.inl rfl)).ce (R := S1) kS0.1 (iS 21 (by decide) (by decide)) (by rw [kS0.2]) (by rw [kS0.2]) (iS 50 (by decide) (by decide)) (iS 44 (by decide) (by decide))).se (u := s1) qs0 ns0)).imp (by omega) (by omega) (fun _ _ _ _ _ _ _ _ _ _ _ _ _ k gu => k (by rw [← pcC.pe kS0.1, ← pcR.qe qs0]; exact ⟨gu 0, gu 1⟩))
    have z2 := z1.stp (δ' := 1264) e1 (by omega) (by omega) hy ⟨k20.1, by omega⟩ (by omega)
    have z3 := (z2.ce (R := CS.setI p.2 26 ((p.2.i 26) + 1)) rfl rfl rfl rfl rfl rfl).se (u := RS.setI y.2 55 (y.2.i 55 + 1)) rfl ⟨rfl, fun _ _ => rfl⟩
    have z4 := z3.adw hN w3.1 (by rw [P43]; rcases h43 with z | z <;> rw [z] <;> decide) e5 hq5
    have pc : pcC p5.2 = pcC p.2 := (pcC.pe (ke_X9_advance N (CS.setI p.2 26 ((p.2.i 26) + 1)) p5 e5)).trans (pcC.pe rfl)
    have pr : pcR q5' = pcR y.2 := (pcR.qe (kre_f_X12_next N (RS.setI y.2 55 (y.2.i 55 + 1)) q5' hq5)).trans (pcR.qe rfl)
    rw [← pc, ← pr] at z2
    exact z4.imp (by omega) (by omega) (fun _ _ _ _ _ _ _ _ _ _ _ _ _ k => by rw [pc, pr]; exact k)
  clear w1 w2 w3 w4
  obtain ⟨cP, tP, lP, oP⟩ := hC.way q1 q2 q3 hT wq ⟨by omega, by omega, by omega, by omega, by omega⟩
  have hin := hC.inl q1 q3
  have eoP : ∀ y ∈ c :: L, p5.2.o y.2.1 = S.o y.2.1 := fun y hy => (hin.o wq.2.2.2.2.1 y hy).1
  have bP := wq.bse hBS
  have st := cP.2.1
  obtain ⟨inj, -⟩ := STK.inj (c :: L) _ _ _ st
  have ref : ∀ x3 x2 : Int32, f_X12_jump_49 N q5' xr x2 x3 = some J1 → ∃ x4 : Int32, f_X12_jump_171 N q5' xr x2 x3 x4 = some J1 ∧ FNG (PJ p5.2 q5' xr x3) (c :: L) x4 := fun x3 x2 h => by
    unfold f_X12_jump_49 at h
    exact jp_ref (b := b) L c _ _ _ N (q5'.i 43 - 1) st (BOT.mv (c :: L) hB eoP) cP.2.2.2.2.2.1.2.1 (g1_int tP.2.1 (by omega)) h
  have flt : ¬ J1.i 15 = 0 → ¬ U.i 15 = 0 := fun z => u_flt g1 (krf_f_X12_over N J1 0 V1 ho z)
  have kf : ∀ (X : CS) (xw : Int32), ¬ X.i 32 = 0 → f_X7_jump_72 N X xc xw = some R → ¬ R.2.i 32 = 0 := fun X xw z h => by
    rw [kF_X7_jump_72 N X xc xw R h z]
    exact z
  have tkn := tk_is wq.1 (a := 2) (b := 2) (Or.inl ⟨by decide, by decide⟩) (by decide)
  have m1i := m1_int tP.1
  have nm1 : ¬ (0 : Int32) ≤ -1 := by decide
  have ge0 : ∀ (v : Int32) (k : Nat), v.toInt = (k : Int) → 0 ≤ v := fun v k h => by
    rw [Int32.le_iff_toInt_le, z_t0]
    omega
  by_cases c2 : p5.2.i 43 = 2
  · -- with a name
    rw [e_fnd1 c2] at e9
    rw [← Option.some.inj e9] at e2
    rw [if_neg n10] at e2
    rw [if_pos (tkn.mp c2)] at hJ2
    have lq : p5.2.l = q5'.l := wq.1.1.2.2.2.1.2.2.2.2.1 c2
    have nz5 : ¬ p5.2.i 43 = 0 := by rw [c2]; decide
    obtain ⟨x4, r1, r2⟩ := ref 1 _ hJ2
    obtain ⟨p48, e48, e2⟩ := hf_bind e2
    unfold f_X7_labelTarget at e48
    obtain ⟨lb, elb, e48⟩ := hf_bind e48
    have elb' : f_X6_labelled_7 N N p5.2 p5.2.l (p5.2.i 53 - 1) = some lb := elb
    obtain ⟨lb2, lbF⟩ := y_labC N L c (p5.2.i 53 - 1) lb bP m1i elb'
    rw [lb2] at e48
    have f63 : ∀ (X : CS) (v : Int32), ¬ X.i 32 = 0 → f_X7_labelTarget_63 N X v = some p48 → ¬ p48.2.i 32 = 0 := fun X v z h => by
      rw [kF_X7_labelTarget_63 N X v p48 h z]
      exact z
    have a63 : ∀ v : Int32, f_X7_labelTarget_63 N p5.2 v = some p48 → p48.1 = v ∧ ∃ a : Unit × CS, f_X9_advance N p5.2 = some a ∧ p48.2 = a.2 := fun v h => by
      unfold f_X7_labelTarget_63 at h
      obtain ⟨a, ea, h⟩ := hf_bind h
      rw [← Option.some.inj h]
      exact ⟨rfl, a, ea, rfl⟩
    unfold f_X12_jump_171 at r1
    rcases fn_same inj (p' := PJ p5.2 q5' xr 1) (fun y hy => by
      refine ⟨fun z => Or.inr ⟨by decide, z.1, z.2.trans lq⟩, fun z => ?_⟩
      rcases z with ⟨z, -⟩ | ⟨-, z1, z2⟩
      · exact absurd z (by decide)
      · exact ⟨z1, z2.trans lq.symm⟩) lbF r2 with ⟨z1, z2⟩ | ⟨w, hw, z1, z2, z3⟩
    · -- no such label
      rw [z1, if_neg nm1] at e48
      obtain ⟨fl, efl, e48⟩ := hf_bind e48
      rw [z2, if_neg nm1, if_neg (by decide)] at r1
      obtain ⟨rf, erf, r1⟩ := hf_bind r1
      refine Or.inl ⟨kf p48.2 p48.1 (f63 fl.2 _ (y_fail (by decide) efl) e48) e2, flt ?_⟩
      rw [← Option.some.inj r1]
      exact rf_fail (by decide) erf
    · have ge := ge0 _ _ z2
      have ge' := ge0 _ _ z3
      rw [if_pos ge] at e48
      rw [if_pos ge', if_neg (by decide)] at r1
      have xn : x4.toNatClampNeg = ceG w := by
        show x4.toInt.toNat = ceG w
        omega
      rcases hbx with ⟨y1, y2, y3⟩ | ⟨y1, y2, y3⟩
      · -- break
        rw [if_pos y2] at e48
        rw [if_neg (show ¬ xr = 0 by rw [y1]; decide)] at r1
        obtain ⟨v1, a, ea, v2⟩ := a63 _ e48
        exact jp_fin hN (w := w) hC hS hT hm t9 hB hBS hB2 wq x55 hw (Or.inl z1.1) (fun z => by omega) jg (v1 ▸ z2) z3 (Or.inl ⟨y1, y2, y3⟩) (Or.inr ⟨rfl, nz5, a, ea, v2⟩) e2 r1 ho g1
      · -- continue
        rw [if_neg (show ¬ xc = 0 by rw [y2]; decide)] at e48
        rw [if_pos y1, xn] at r1
        obtain ⟨-, r1⟩ := hf_ite r1
        obtain ⟨lp, elp, e48⟩ := hf_bind e48
        have lbc : LBC p5.2 q5' (c :: L) (-1) := by
          have z := cP.2.2.2.1
          by_cases cc : p5.2.o c.2.1 0 = 303
          · rw [hx (by rw [← oP]; exact cc)] at z
            exact z
          · exact z.no cc
        obtain ⟨lp2, hl⟩ := y_lpC st lbc bP tP.1 hw z1.1 z2 elp
        rw [lp2] at e48
        rcases hl with ⟨l1, l2⟩ | ⟨w', hw', l1, l2, l3⟩
        · rw [l1, if_neg nm1] at e48
          obtain ⟨fl, efl, e48⟩ := hf_bind e48
          rw [if_neg (show ¬ 0 ≤ q5'.a 46 (ceG w) from fun q => by
            have := le_int q
            rw [z_t0] at this
            omega)] at r1
          obtain ⟨rf, erf, r1⟩ := hf_bind r1
          refine Or.inl ⟨kf p48.2 p48.1 (f63 fl.2 _ (y_fail (by decide) efl) e48) e2, flt ?_⟩
          rw [← Option.some.inj r1]
          exact rf_fail (by decide) erf
        · rw [if_pos (ge0 _ _ l2)] at e48
          rw [if_pos (ge0 _ _ l3)] at r1
          obtain ⟨v1, a, ea, v2⟩ := a63 _ e48
          exact jp_fin hN (w := w') hC hS hT hm t9 hB hBS hB2 wq x55 hw' (Or.inr (Or.inr l1)) (fun _ => l1) jg (v1 ▸ l2) l3 (Or.inr ⟨y1, y2, y3⟩) (Or.inr ⟨rfl, nz5, a, ea, v2⟩) e2 r1 ho g1
  · -- without
    rw [e_fnd0 c2] at e9
    rw [← Option.some.inj e9] at e2
    have e3 : ((f_X6_nearest N p5.2 xc).bind fun p14 => (if 0 ≤ p14.1 then f_X7_jump_72 N p14.2 xc p14.1 else (f_X1_fail N p14.2 5 (p.2.i 44)).bind fun p44 => f_X7_jump_72 N p44.2 xc p14.1)) = some R := e2
    rw [if_neg (fun z => c2 (tkn.mpr z))] at hJ2
    obtain ⟨x4, r1, r2⟩ := ref 0 _ hJ2
    obtain ⟨p14, e14, e3⟩ := hf_bind e3
    have e14' : f_X6_nearest_7 N N p5.2 xc (p5.2.i 53 - 1) = some p14 := e14
    obtain ⟨nr2, nrF⟩ := y_nearC N L c (p5.2.i 53 - 1) p14 bP m1i e14'
    rw [nr2] at e3
    unfold f_X12_jump_171 at r1
    have hxx : xc = 0 ↔ ¬ xr = 0 := by
      rcases hbx with ⟨y1, y2, -⟩ | ⟨y1, y2, -⟩
      · rw [y1, y2]
        exact ⟨fun _ => n10, fun _ => rfl⟩
      · rw [y1, y2]
        exact ⟨fun z => absurd z n10, fun z => absurd rfl z⟩
    rcases fn_same inj (p' := PJ p5.2 q5' xr 0) (fun y hy => by
      refine ⟨fun z => Or.inl ⟨rfl, ?_⟩, fun z => ?_⟩
      · rcases z with z | ⟨z1, z2⟩
        · exact Or.inl z
        · exact Or.inr ⟨hxx.mp z1, z2⟩
      · rcases z with ⟨-, z | ⟨z1, z2⟩⟩ | ⟨z, -⟩
        · exact Or.inl z
        · exact Or.inr ⟨hxx.mpr z1, z2⟩
        · exact absurd rfl z) nrF r2 with ⟨z1, z2⟩ | ⟨w, hw, z1, z2, z3⟩
    · rw [z1, if_neg nm1] at e3
      obtain ⟨fl, efl, e3⟩ := hf_bind e3
      rw [z2, if_neg nm1, if_pos rfl] at r1
      obtain ⟨rf, erf, r1⟩ := hf_bind r1
      refine Or.inl ⟨kf fl.2 _ (y_fail (by decide) efl) e3, flt ?_⟩
      rw [← Option.some.inj r1]
      exact rf_fail (by decide) erf
    · rw [if_pos (ge0 _ _ z2)] at e3
      rw [if_pos (ge0 _ _ z3), if_pos rfl] at r1
      have gw : isGo (p5.2.o w.2.1 0) := by
        rcases z1 with z | ⟨-, z⟩
        · exact Or.inr (Or.inr z)
        · exact Or.inr (Or.inl z)
      have glo : bb = 1 → isLo (p5.2.o w.2.1 0) := fun zb => by
        rcases z1 with z | ⟨z, -⟩
        · exact z
        · rcases hbx with ⟨-, -, y3⟩ | ⟨-, y2, -⟩
          · omega
          · rw [y2] at z
            exact absurd z n10
      exact jp_fin hN (w := w) hC hS hT hm t9 hB hBS hB2 wq x55 hw gw glo jg z2 z3 hbx (Or.inl ⟨rfl, rfl⟩) e3 r1 ho g1
end
section
/-! both readers: a statement, by its first token -/
theorem r_sst {N T : Nat} {s V : RS} (ht : tpI s = (T : Int)) (h15 : s.i 15 = 0) (h10 : s.i 10 = 59) (h : f_X12_stat N s (s.i 63) = some V) : T < 1000 ∧ f_X12_stat_309 N (RS.setA (RS.setI s 53 ((s.i 53) + 1)) 64 T 2) = some V := by
  unfold f_X12_stat at h
  rw [h10, tp_nat ht] at h
  iterate 16 rw [if_neg (by decide)] at h
  obtain ⟨hib, h2⟩ := hf_ite h
  clear h
  refine ⟨?_, ?_⟩
  · have z : (s.i 63).toInt = (T : Int) := ht
    have := hib.2
    omega
  obtain ⟨s1, hs1⟩ : ∃ y, y = RS.setA (RS.setI s 53 ((s.i 53) + 1)) 64 T 2 := ⟨_, rfl⟩
  have i1 : ∀ k : Nat, k ≠ 53 → s1.i k = s.i k := by
    rw [hs1]
    exact fun k h => if_neg h
  have a64 : s1.a 64 T = 2 := by
    rw [hs1]
    exact setA_at
  rw [← hs1] at h2 ⊢
  clear hs1
  unfold f_X12_stat_240 at h2
  obtain ⟨-, h2⟩ := hf_ite h2
  rw [tp_nat ht, a64, if_pos rfl, i1 10 (by decide), h10, if_pos rfl] at h2
  obtain ⟨p, ep, h2⟩ := hf_bind h2
  rw [y_can1 (by rw [i1 15 (by decide)]; exact h15) (by rw [i1 10 (by decide), h10]; decide)] at ep
  rw [← Option.some.inj ep, if_neg n10] at h2
  exact h2
/-- what begins no statement -/
theorem r_mst {N T : Nat} {s V : RS} (ht : tpI s = (T : Int)) (nt : ∀ v : Int32, (v = 123 ∨ v = 410 ∨ v = 411 ∨ v = 2 ∨ v = 412 ∨ v = 420 ∨ v = 431 ∨ v = 421 ∨ v = 427 ∨ v = 413 ∨ v = 415 ∨ v = 416 ∨ v = 417 ∨ v = 422 ∨ v = 428 ∨ v = 423 ∨ v = 59 ∨ v = 418 ∨ v = 419) → ¬ s.i 10 = v) (h : f_X12_stat N s (s.i 63) = some V) : ¬ V.i 15 = 0 := by
  unfold f_X12_stat at h
  rw [tp_nat ht, if_neg (nt 123 (by decide)), if_neg (nt 410 (by decide)), if_neg (nt 411 (by decide)), if_neg (nt 2 (by decide)), if_neg (nt 412 (by decide)), if_neg (nt 420 (by decide)), if_neg (nt 431 (by decide)), if_neg (nt 421 (by decide)), if_neg (nt 427 (by decide)), if_neg (nt 413 (by decide)), if_neg (nt 415 (by decide)), if_neg (nt 416 (by decide)), if_neg (nt 417 (by decide)), if_neg (nt 422 (by decide)), if_neg (nt 428 (by decide)), if_neg (nt 423 (by decide))] at h
  obtain ⟨-, h2⟩ := hf_ite h
  clear h
  obtain ⟨s1, hs1⟩ : ∃ y, y = RS.setA (RS.setI s 53 ((s.i 53) + 1)) 64 T 2 := ⟨_, rfl⟩
  have i1 : ∀ k : Nat, k ≠ 53 → s1.i k = s.i k := by
    rw [hs1]
    exact fun k h => if_neg h
  have a64 : s1.a 64 T = 2 := by
    rw [hs1]
    exact setA_at
  rw [← hs1] at h2
  clear hs1
  unfold f_X12_stat_240 at h2
  obtain ⟨-, h2⟩ := hf_ite h2
  rw [tp_nat ht, a64, if_pos rfl, i1 10 (by decide), if_neg (nt 59 (by decide)), if_neg (nt 418 (by decide)), if_neg (nt 419 (by decide))] at h2
  obtain ⟨p, ep, h2⟩ := hf_bind h2
  obtain ⟨z1, z2⟩ := y_can0 ep
  rw [if_pos z1] at h2
  rw [← Option.some.inj h2]
  exact z2
set_option maxHeartbeats 1000000 in
theorem st_semi {N : Nat} (hN : 1000 ≤ N) {d : Int32} {B : CS} {b : RS} {t0 T n : Nat} {L : List CEL} {x : Int} {S : CS} {s U : RS} {c : CEL} {p R : Unit × CS} {Aj : JBA} (hC : COR d B b t0 (c :: L) x S s) (hS : STO c T S s) (hT : t0 ≤ T) (hm : NMC c S) (h43 : S.i 43 = 59) (e1 : f_X0_add N (CS.setI (CS.setI S 36 1) 24 ((S.i 24) + 1)) 51 0 = some p) (e : f_X9_advance N p.2 = some R) (g : f_X12_parse_10 N n s = some U) : OUTS N d B b t0 T c L x R.2 U (JTR Aj U B b (c :: L) S s) := by
  obtain ⟨q1, q2, q3, q4, q5, q6⟩ := id hS
  have hv := hC.1
  have ph3 : 3 ≤ phI s := by
    have a := hC.2.2.2.2.2.2.1.2.1
    have b := (PDM.ge S (c :: L)).1
    have e := hC.2.2.2.2.2.2.2.2.2.2.2.1
    omega
  have h10 := (tk_is hv (a := 59) (b := 59) (Or.inl ⟨by decide, by decide⟩) (by decide)).mp h43
  obtain ⟨m1, V1, hV1, g1⟩ := rl_2 g q4 hv.1.2.1 q5
  obtain ⟨t9, hV2⟩ := r_sst q4 hv.1.2.1 h10 hV1
  have w0 := WAY.stm (K := 2) hv q4
  have qs0 : qe (RS.setA (RS.setI s 53 ((s.i 53) + 1)) 64 T 2) = qe s := rfl
  have ns0 : NMV s (RS.setA (RS.setI s 53 ((s.i 53) + 1)) 64 T 2) := ⟨rfl, fun _ _ => rfl⟩
  have kS0 : pe (CS.setI (CS.setI S 36 1) 24 ((S.i 24) + 1)) = pe S ∧ (CS.setI (CS.setI S 36 1) 24 ((S.i 24) + 1)).a = S.a := ⟨rfl, rfl⟩
  obtain ⟨s1, hs1⟩ : ∃ y, y = RS.setA (RS.setI s 53 ((s.i 53) + 1)) 64 T 2 := ⟨_, rfl⟩
  obtain ⟨S1, hS1⟩ : ∃ y, y = CS.setI (CS.setI S 36 1) 24 ((S.i 24) + 1) := ⟨_, rfl⟩
  have i1 : ∀ k : Nat, k ≠ 53 → s1.i k = s.i k := by
    rw [hs1]
    exact fun k h => if_neg h
  have iS : ∀ k : Nat, k ≠ 36 → k ≠ 24 → S1.i k = S.i k := by
    rw [hS1]
    exact fun k h1 h2 => (ci_ne _ _ _ h2).trans (ci_ne _ _ _ h1)
  rw [← hs1] at hV2 w0 qs0 ns0
  rw [← hS1] at e1 w0 kS0
  clear hs1 hS1
  have p1 : phI s1 = phI s := by
    unfold phI
    rw [i1 17 (by decide), i1 20 (by decide)]
  unfold f_X12_stat_309 at hV2
  obtain ⟨y, hy, hV2⟩ := hf_bind hV2
  obtain ⟨w1, -, -, -, y10⟩ := w0.em (by omega) hy
  have w2 := w1.ad e1
  obtain ⟨-, -, j43, -⟩ := y_add w1.1 e1
  have p43 : p.2.i 43 = 59 := (j43.trans (iS 43 (by decide) (by decide))).trans h43
  rw [if_pos ((y10.trans (i1 10 (by decide))).trans h10)] at hV2
  obtain ⟨q, hq, hV3⟩ := hf_bind hV2
  have ho : f_X12_over N q 1 = some V1 := by
    obtain ⟨o, h1, h2⟩ := hf_bind hV3
    rw [h1, Option.some.inj h2]
  obtain ⟨n1, n2, n3, n4, n5, n6, n7, n8, n9⟩ := y_nx hN w2.1 w2.2.1 (by rw [p43]; decide) e hq
  obtain ⟨v1, v2, v3, v4, v5, -, v7, v8, v9, v10⟩ := y_over n1 n2 t9 ho
  have xo : XO d T p.2 y.2 R.2 V1 := ⟨v1, v2, (n3 T).tr (v3 T), n4.tr v4, n5, by rw [v8]; exact n6, by omega, by rw [v9]; omega, v10.trans n9⟩
  have r36 : R.2.i 36 = 1 := n5.1.2.1.trans w2.2.2.2.2.2.1.2.2.2.2
  refine Or.inr (Or.inr (Or.inr ⟨m1, V1, g1, DON.dm hC hS hT hm w2 ⟨by omega, by omega, by omega, by omega, by omega⟩ (xo.don2 ⟨v5.trans r36.symm, Or.inr r36⟩) xo.2.2.2.1.1.1.2.2.2.1, fun _ jw => ?_⟩))
  have hin := hC.inl q1 q3
  have ckall : CKZ S R.2 := w2.2.2.2.2.1.tr w2.2.2.2.2.2.1.2.2.1 n5.z
  have veq : vws R.2 V1 (c :: L) = vws S s (c :: L) := vws.eqf (T := T) ((NMV.tr (NMV.tbk w2.2.2.2.1) (NMV.tbk (n4.tr v4))).2) (c :: L) hC.o3 (fun y hy => (hin.o ckall y hy).1) (fun k t h1 h2 h3 => (((n3 T).tr (v3 T)).fld k t h1 h2 h3).trans (w2.2.2.1.fld k t h1 h2 h3)) (fun y hy => by
    have z1 := wid1 (S.o y.2.1 0)
    have z2 := (hin y hy).2.2.1
    omega)
  show JRW Aj U B b (vws R.2 V1 (c :: L)) R.2 V1
  rw [veq]
  have k44 : (S1.i 44).toInt = (s1.i 11).toInt := by rw [w0.1.p44.1]
  have k6 := (i11_hi w0.1).2
  have k20 := w0.1.p20
  have z1 : JRG Aj U B b (vws S s (c :: L)) s [] (JQA U 0 0 (pcC S1) (pcR s1) JQZ) 0 1 S1 s1 := ((((jw.go (e := 1) (Or.inl rfl)).ce (R := S1) kS0.1 (iS 21 (by decide) (by decide)) (by rw [kS0.2]) (by rw [kS0.2]) (iS 50 (by decide) (by decide)) (iS 44 (by decide) (by decide))).se (u := s1) qs0 ns0)).imp (by omega) (by omega) (fun _ _ _ _ _ _ _ _ _ _ _ _ _ k gu => k (by rw [← pcC.pe kS0.1, ← pcR.qe qs0]; exact ⟨gu 0, gu 1⟩))
  have z2 := z1.stp (δ' := 0) e1 (by omega) (by omega) hy ⟨k20.1, by omega⟩ (by omega)
  have z3 := (z2.adv hN w2.1 (by rw [p43]; decide) e hq).se (u := V1) (kre_f_X12_over N q 1 V1 ho) (NMV.tbk v4)
  have pc : pcC R.2 = pcC p.2 := pcC.pe (ke_X9_advance N p.2 R e)
  have pr : pcR V1 = pcR y.2 := (pcR.qe (kre_f_X12_over N q 1 V1 ho)).trans (pcR.qe (kre_f_X12_next N y.2 q hq))
  have l11 := w2.l11
  have l19 := w2.l19
  exact z3.fin (by omega) (Or.inl (by omega)) ((GKP.tbk w2.2.2.2.1).tr (GKP.tbk (n4.tr v4))) (by rw [v8]; omega) (by rw [v10, n9]; omega) (fun FC SF nm X G h0 c0 ω Z hω r12 hA ng hc k cur => k (by rw [← pc, ← pr]; exact (cur r36).2))
theorem OUTS.k {N : Nat} {d : Int32} {B : CS} {b : RS} {t0 T : Nat} {c : CEL} {L : List CEL} {x : Int} {S R : CS} {U : RS} {Q : RS → CS → RS → CS → RS → Prop} {s : RS} {Aj : JBA} (hm : NMC c S) (es : ENV d S s) (hQ : ∀ (P : CS) (y u : RS), Q U P y R u → u.i 38 = y.i 38 ∨ ¬ isOne (S.o c.2.1 0)) (h : (¬ R.i 32 = 0 ∧ ¬ U.i 15 = 0) ∨ ∃ (m : Nat) (u : RS), f_X12_parse_10 N m u = some U ∧ DN d B b t0 T c L x R u ∧ (∃ (P : CS) (y : RS), y.i 38 = s.i 38 ∧ Q U P y R u) ∧ R.o c.2.1 = S.o c.2.1 ∧ (KU3 U s → JRW Aj U B b (vws S s (c :: L)) S s → JRW Aj U B b (vws R u (c :: L)) R u)) : OUTS N d B b t0 T c L x R U (JTR Aj U B b (c :: L) S s) := by
  rcases h with h | ⟨m, u, h1, h2, ⟨P, y, y1, y2⟩, eo, hj⟩
  · exact Or.inl h
  · refine Or.inr (Or.inr (Or.inr ⟨m, u, h1, ⟨h2, ?_⟩, hj⟩))
    rcases hQ P y u y2 with z | z
    · exact hm.dn es h2.1.1 (z.trans y1) eo
    · intro z1
      rw [eo] at z1
      exact absurd z1 z
theorem OUTS.n {N : Nat} {d : Int32} {B : CS} {b : RS} {t0 T : Nat} {c : CEL} {L : List CEL} {x : Int} {R : CS} {U : RS} {J : List RVW → CS → RS → Prop} (h : (¬ R.i 32 = 0 ∧ ¬ U.i 15 = 0) ∨ ∃ (m : Nat) (u : RS), f_X12_parse_10 N m u = some U ∧ NEW d B b t0 c L R u J) : OUTS N d B b t0 T c L x R U J := by
  rcases h with h | h
  · exact Or.inl h
  · exact Or.inr (Or.inr (Or.inl h))
theorem OUTS.m {N : Nat} {d : Int32} {B : CS} {b : RS} {t0 T : Nat} {c : CEL} {L : List CEL} {x : Int} {R : CS} {U : RS} {J : List RVW → CS → RS → Prop} (h : (¬ R.i 32 = 0 ∧ ¬ U.i 15 = 0) ∨ DMD d B R U ∨ ∃ (m : Nat) (u : RS), f_X12_parse_10 N m u = some U ∧ NEW d B b t0 c L R u J) : OUTS N d B b t0 T c L x R U J := by
  rcases h with h | h | h
  · exact Or.inl h
  · exact Or.inr (Or.inl h)
  · exact Or.inr (Or.inr (Or.inl h))
/-- the goals that the rows hold are no arm's -/
theorem STK.g44 {b : RS} {S : CS} {s : RS} : ∀ (L : List CEL) (c : CEL) (m e k : Int), STK S s (c :: L) m e k → BOT b S (c :: L) → ∀ g : Nat, (b.i 43).toInt ≤ (g : Int) → g < ceG c + nGo (S.o c.2.1 0) → ¬ s.a 44 g = 3
  | [], c, m, e, k, st, hb, g, h1, h2 => by
    have n0 := nGo.eq hb.1
    have := hb.2.1
    omega
  | c0 :: L, c, m, e, k, st, hb, g, h1, h2 => by
    obtain ⟨m', e', k', g1, g2, g3⟩ := st
    have l3 := (g2 c0 rfl).1.2.2.1
    by_cases q : g < ceG c
    · exact STK.g44 L c0 m' e' k' g3 hb g h1 (by omega)
    · by_cases go : isGo (S.o c.2.1 0)
      · have n1 := nGo1 go
        have eg : g = ceG c := by omega
        rw [eg]
        obtain ⟨-, -, -, r3, -, -, r5, r6, r7, r4, -, r8, -⟩ := g1.2.2.1
        rcases go with z | z | z | z | z | z
        · rw [(r3 z).2.2.2.1]
          decide
        · rw [(r8 z).2.2.2.1]
          decide
        · rw [(r5 z).2.2.2.2]
          decide
        · rw [(r6 z).2.2.2]
          decide
        · rw [(r7 z).2.2.2.2.2]
          decide
        · rw [(r4 z).1.2.2.2.2]
          decide
      · have n0 := nGo.eq go
        omega
/-- what the base knows of its arm -/
def YBA (A : JBA) (U : RS) (B : CS) (b : RS) : Prop := 0 ≤ (B.i 56).toInt → ∃ (a gA : Nat), (B.i 56).toInt < (B.i 53).toInt ∧ B.r 51 (B.i 56).toInt.toNat = some a ∧ (b.i 43).toInt = (gA : Int) + 1 ∧ b.a 44 gA = 3 ∧ ∀ (FC : Nat → Prop) (SF : CS) (nm : Nat → Nat → Prop) (X : Als) (h0 ω : Nat) (c0 : List Ent), A FC SF nm X h0 ω c0 → NT5 (B.o a 9) ∧ ∃ (q0 we : Nat) (c' : List Ent), c0 = (5, h0, q0, 0, 0, 0, 0) :: c' ∧ h0 < 600 ∧ we ≤ ω ∧ EXG FC SF U nm X (B.o a 9) q0 h0 we c' ∧ (B.o a 2).toInt = (frs c' : Int) ∧ (b.a 47 gA).toInt = (c'.length : Int) + 1
/-- yield's code -/
theorem y_yok {d : Int32} {B : CS} {b : RS} {t0 T : Nat} {L : List CEL} {x : Int} {S P R : CS} {s y u U : RS} {c : CEL} {A : JBA} (hC : COR d B b t0 (c :: L) x S s) (hS : STO c T S s) (hB : BOT b S (c :: L)) (hY : YBA A U B b) (ev : ENV d P y) (dn : DON d T P y R u) (e38 : u.i 38 = y.i 38) (h : YDP y u ∧ ∃ a : Nat, P.r 51 (P.i 56).toInt.toNat = some a ∧ 0 ≤ (P.i 56).toInt ∧ CDG (-1) (fun FC SF nm X c h w2 => GF2 FC SF U (GU FC SF U nm X) c h (P.o a 9 * 32 + P.o a 2) (u.a 23 (pcR u - 1)) (w2 - 1)) U P y R u) (eP : P.i 56 = S.i 56 ∧ P.r = S.r ∧ P.o = S.o) (ey : y.i 43 = s.i 43 ∧ y.a 44 = s.a 44 ∧ y.a 47 = s.a 47) : JOK A (vws S s (c :: L)) U P y R u := by
  obtain ⟨yd, a, ha, h56, cg⟩ := h
  obtain ⟨c1, c2, -, -, -, -, -, -, -, -, c11⟩ := hC.2.2.2.2.1
  rw [eP.1, eP.2.1] at ha
  rw [eP.1, c11] at h56
  rw [c11] at ha
  obtain ⟨a', gA, b1, b2, b3, b4, hA⟩ := hY h56
  have lt : (((B.i 56).toInt.toNat : Nat) : Int) < (B.i 53).toInt := by omega
  rw [c1 _ lt, b2] at ha
  cases ha
  have eo : P.o a = B.o a := by
    rw [eP.2.2]
    exact (c2 _ a lt b2).1
  have tb := hC.2.2.2.2.2.1.2.1
  obtain ⟨t44, -, -, t47, -⟩ := tb.2.2.2.2.1 gA (by omega)
  have gl := hS.1.2.1
  have d23 : u.a 23 (pcR u - 1) = b.a 47 gA := by
    rw [yd gA (by rw [ey.1]; have := tb.2.1; omega) (by rw [ey.2.1, t44]; exact b4) (fun g' h1 h2 h3 => ?_), ey.2.2, t47]
    rw [ey.1] at h2
    rw [ey.2.1] at h3
    exact STK.g44 L c _ _ _ hC.2.1 hB g' (by omega) (by omega) h3
  refine ⟨_, dn.cdw ev e38 cg, fun FC SF nm X G ω h0 c0 hω r12 hAA ng hc _ => ?_⟩
  obtain ⟨n5, q0, we, c', e0, h6, hwe, ⟨pe', qe', g1, g2, g3, -⟩, f1, f2⟩ := hA FC SF nm X h0 ω c0 hAA
  obtain ⟨l0, c1', i1, i2, i3⟩ := JCX.app G ω h0 c0 [] (vws S s (c :: L))
  rw [List.append_nil] at i1 l0
  have hh := (JCX.cnt G ω h0 c0 (vws S s (c :: L))).1
  have fr := (JCX.cnt G ω h0 c0 (vws S s (c :: L))).2.1
  have e00 : (JCX G ω h0 c0 []).c = c0 := rfl
  have l00 : (JCX G ω h0 c0 []).l = 0 := rfl
  have fr22 := hc.2.2.1
  have fc' : frs c0 = frs c' := by
    rw [e0]
    rfl
  have d32 : 0 ≤ (B.o a 2).toInt ∧ (B.o a 2).toInt < 32 := ⟨by omega, by omega⟩
  obtain ⟨y1, y2⟩ := lv5 n5 d32
  rw [hh]
  refine ⟨c1', (5, h0, q0, 0, 0, 0, 0), c', by rw [i1, e00, e0]; rfl, ⟨rfl, rfl, h6⟩, ⟨?_, by rw [d23]; exact f2⟩, i2, fun _ => ⟨pe', qe', we, ⟨?_, g2⟩, g3, by omega, fun e he hk => ?_⟩⟩
  · rw [eo, y2]
    exact f1
  · rw [eo, y1]
    exact g1
  · have := (i3 e he hk).1
    rw [l00] at this
    omega
set_option maxHeartbeats 8000000 in
theorem st_plain {N : Nat} (hN : 1000 ≤ N) {E1 : CS → Option (Unit × CS)} {E2 : CS → Option (Int32 × CS)} (hm1 : ∀ σ, Kf (CS.i σ 32) (E1 σ)) (hm2 : ∀ σ, Kf (CS.i σ 32) (E2 σ)) (hE : SXR N 18 E1) (hE2 : SXN N 22 E2) {d : Int32} {B : CS} {b : RS} {t0 T n : Nat} {L : List CEL} {x : Int} {S : CS} {s U : RS} {c : CEL} {p R : Unit × CS} {Aj : JBA} (hY : YBA Aj U B b) (hC : COR d B b t0 (c :: L) x S s) (hS : STO c T S s) (hT : t0 ≤ T) (hm : NMC c S) (hx : S.o c.2.1 0 = 303 → x = lcd s) (hB : BOT b S (c :: L)) (hBS : BSE S (c :: L)) (hB2 : BO2 B b S (c :: L)) (h1b : isOne (S.o c.2.1 0) → ¬ S.i 43 = 200 ∧ ¬ S.i 43 = 201) (n2 : ¬ S.i 43 = 2) (n123 : ¬ S.i 43 = 123) (e1 : f_X0_add N (CS.setI (CS.setI S 36 1) 24 ((S.i 24) + 1)) 51 0 = some p) (e : f_X7_plain N E1 E2 p.2 = some R) (g : f_X12_parse_10 N n s = some U) : OUTS N d B b t0 T c L x R.2 U (JTR Aj U B b (c :: L) S s) := by
  obtain ⟨q1, q2, q3, q4, q5, q6⟩ := id hS
  have hv := hC.1
  have ev1 := hv.stm (t := T) (K := 0)
  obtain ⟨-, -, j43, -⟩ := y_add ev1 e1
  have p43 : p.2.i 43 = S.i 43 := by
    rw [j43, ci_ne _ _ _ (by decide), ci_ne _ _ _ (by decide)]
  have tk : ∀ a b : Int32, tyR a → tm a = b → (S.i 43 = a ↔ s.i 10 = b) := fun a b h1 h2 => tk_is hv h1 h2
  have ty : ∀ a : Int32, (200 ≤ a.toInt ∧ a.toInt ≤ 224) → tyR a := fun a h => Or.inr h
  have k203 := tk 203 413 (ty _ (by decide)) (by decide)
  have k205 := tk 205 415 (ty _ (by decide)) (by decide)
  have k206 := tk 206 416 (ty _ (by decide)) (by decide)
  have k207 := tk 207 417 (ty _ (by decide)) (by decide)
  have k212 := tk 212 422 (ty _ (by decide)) (by decide)
  have k213 := tk 213 423 (ty _ (by decide)) (by decide)
  have k218 := tk 218 428 (ty _ (by decide)) (by decide)
  have k200 := tk 200 410 (ty _ (by decide)) (by decide)
  have k201 := tk 201 411 (ty _ (by decide)) (by decide)
  have k202 := tk 202 412 (ty _ (by decide)) (by decide)
  have k210 := tk 210 420 (ty _ (by decide)) (by decide)
  have k221 := tk 221 431 (ty _ (by decide)) (by decide)
  have k211 := tk 211 421 (ty _ (by decide)) (by decide)
  have k217 := tk 217 427 (ty _ (by decide)) (by decide)
  have k208 := tk 208 418 (ty _ (by decide)) (by decide)
  have k209 := tk 209 419 (ty _ (by decide)) (by decide)
  have k2 := tk 2 2 (Or.inl ⟨by decide, by decide⟩) (by decide)
  have k59 := tk 59 59 (Or.inl ⟨by decide, by decide⟩) (by decide)
  have k123 := tk 123 123 (Or.inl ⟨by decide, by decide⟩) (by decide)
  have lp : (S.i 43 = 205 ∨ S.i 43 = 206 ∨ S.i 43 = 207) → S.o c.2.1 0 = 303 → x = -3 := fun h z => by
    rw [hx z]
    unfold lcd
    refine if_pos ?_
    rcases h with h | h | h
    · exact Or.inl (k205.mp h)
    · exact Or.inr (Or.inl (k206.mp h))
    · exact Or.inr (Or.inr (k207.mp h))
  have ot : ¬ S.i 43 = 205 → ¬ S.i 43 = 206 → ¬ S.i 43 = 207 → S.o c.2.1 0 = 303 → x = -1 := fun h1 h2 h3 z => by
    rw [hx z]
    unfold lcd
    rw [if_neg, if_neg (fun q => n2 (k2.mpr q))]
    intro q
    rcases q with q | q | q
    · exact h1 (k205.mpr q)
    · exact h2 (k206.mpr q)
    · exact h3 (k207.mpr q)
  have ot' : ∀ a : Int32, S.i 43 = a → ¬ a = 205 → ¬ a = 206 → ¬ a = 207 → S.o c.2.1 0 = 303 → x = -1 := fun a h h1 h2 h3 => ot (by rw [h]; exact h1) (by rw [h]; exact h2) (by rw [h]; exact h3)
  have iar : ∀ (S2 : CS) (s2 : RS), S2.i 56 = S.i 56 → S2.i 53 = S.i 53 → S2.r = S.r → s2.i 43 = s.i 43 → s2.a 44 = s.a 44 → IAR S2 s2 := fun S2 s2 h1 h2 h3 h4 h5 => by
    have z := hC.2.2.2.2.2.2.2.2.2.1
    unfold IAR at *
    rw [h1, h2, h3, h4, h5]
    exact z
  have c21 := hC.2.2.2.2.2.2.2.2.1.1
  have c38 := hC.2.2.2.2.2.2.2.2.1.2.1
  unfold f_X7_plain at e
  rw [p43] at e
  by_cases d59 : S.i 43 = 59
  · rw [if_pos d59] at e
    exact st_semi hN hC hS hT hm d59 e1 (ob_un e) g
  rw [if_neg d59] at e
  by_cases d200 : S.i 43 = 200
  · rw [if_pos d200] at e
    exact OUTS.k hm hv (fun _ _ _ _ => Or.inr (fun q => (h1b q).1 d200)) (st_k (sx_tell hN hm1 hm2 hE) (by decide) (by decide) hC hS hT (fun S2 s2 h1 h2 _ _ _ _ h7 _ _ => ⟨Or.inl (h1.trans d200), by rw [h2, h7]; exact c38⟩) (fun V h => r_stat q4 (k200.mp d200) (by unfold kwd; decide) h) e1 e (fun P y u ev dn _ q _ _ => JOK.go q.2 q.1) g)
  rw [if_neg d200] at e
  by_cases d201 : S.i 43 = 201
  · rw [if_pos d201] at e
    exact OUTS.k hm hv (fun _ _ _ _ => Or.inr (fun q => (h1b q).2 d201)) (st_k (sx_tell hN hm1 hm2 hE) (by decide) (by decide) hC hS hT (fun S2 s2 h1 h2 _ _ _ _ h7 _ _ => ⟨Or.inr (h1.trans d201), by rw [h2, h7]; exact c38⟩) (fun V h => r_stat q4 (k201.mp d201) (by unfold kwd; decide) h) e1 e (fun P y u ev dn _ q _ _ => JOK.go q.2 q.1) g)
  rw [if_neg d201] at e
  by_cases d202 : S.i 43 = 202
  · rw [if_pos d202] at e
    exact OUTS.k hm hv (fun _ _ _ h => Or.inl h.1) (st_k (sx_log hN hm1 hm2 hE).d (by decide) (by decide) hC hS hT (fun S2 s2 h1 _ _ _ _ _ _ _ _ => ⟨trivial, h1.trans d202⟩) (fun V h => r_stat q4 (k202.mp d202) (by unfold kwd; decide) h) e1 e (fun P y u ev dn _ q _ _ => JOK.go (dn.cdw ev q.1 q.2.2) q.2.1) g)
  rw [if_neg d202] at e
  by_cases d208 : S.i 43 = 208
  · rw [if_pos d208] at e
    exact st_jump hN hC hS hT hm (ot' 208 d208 (by decide) (by decide) (by decide)) hB hBS hB2 (Or.inl d208) e1 (ob_un e) g
  rw [if_neg d208] at e
  by_cases d209 : S.i 43 = 209
  · rw [if_pos d209] at e
    exact st_jump hN hC hS hT hm (ot' 209 d209 (by decide) (by decide) (by decide)) hB hBS hB2 (Or.inr d209) e1 (ob_un e) g
  rw [if_neg d209] at e
  by_cases d210 : S.i 43 = 210
  · rw [if_pos d210] at e
    exact OUTS.k hm hv (fun _ _ _ h => Or.inl h.1) (st_k (sx_return hN hm1 hm2 hE).d (by decide) (by decide) hC hS hT (fun S2 s2 h1 _ _ h4 h5 h6 _ h8 h9 => ⟨iar S2 s2 h4 h5 h6 h8 h9, h1.trans d210⟩) (fun V h => r_stat q4 (k210.mp d210) (by unfold kwd; decide) h) e1 (ob_un e) (fun P y u ev dn _ q _ _ => JOK.no (dn.cdw ev q.1 q.2)) g)
  rw [if_neg d210] at e
  by_cases d211 : S.i 43 = 211
  · rw [if_pos d211] at e
    exact OUTS.k hm hv (fun _ _ _ h => Or.inl h.1) (st_k (sx_throw hN hm1 hm2 hE).d (by decide) (by decide) hC hS hT (fun S2 s2 h1 _ _ _ _ _ _ _ _ => ⟨trivial, h1.trans d211⟩) (fun V h => r_stat q4 (k211.mp d211) (by unfold kwd; decide) h) e1 (ob_un e) (fun P y u ev dn ku q _ _ => JOK.k3 (dn.cdw ev q.1 q.2) ku) g)
  rw [if_neg d211] at e
  by_cases d217 : S.i 43 = 217
  · rw [if_pos d217] at e
    exact OUTS.k hm hv (fun _ _ _ h => Or.inl h.1) (st_k (sx_assert hN hm1 hm2 hE hE2).d (by decide) (by decide) hC hS hT (fun S2 s2 h1 _ h3 _ _ _ h7 _ _ => ⟨by rw [h3, h7]; exact c21, h1.trans d217⟩) (fun V h => r_stat q4 (k217.mp d217) (by unfold kwd; decide) h) e1 (ob_un e) (fun P y u ev dn ku q _ _ => JOK.gk (dn.cdw ev q.1 q.2.2) q.2.1 ku) g)
  rw [if_neg d217] at e
  by_cases d221 : S.i 43 = 221
  · rw [if_pos d221] at e
    exact OUTS.k hm hv (fun _ _ _ h => Or.inl h.1) (st_k (sx_yield hN hm1 hm2 hE).d (by decide) (by decide) hC hS hT (fun S2 s2 h1 _ _ h4 h5 h6 _ h8 h9 => ⟨iar S2 s2 h4 h5 h6 h8 h9, h1.trans d221⟩) (fun V h => r_stat q4 (k221.mp d221) (by unfold kwd; decide) h) e1 (ob_un e) (fun P y u ev dn _ q eP ey => y_yok hC hS hB hY ev dn q.1 q.2 eP ey) g)
  rw [if_neg d221] at e
  have e2 := ob_un e
  unfold f_X7_compound at e2
  rw [p43] at e2
  by_cases d203 : S.i 43 = 203
  · rw [if_pos d203] at e2
    exact OUTS.m (st_if hN hm1 hm2 hE2 hC hS hT hm (ot' 203 d203 (by decide) (by decide) (by decide)) d203 e1 (ob_un e2) g)
  rw [if_neg d203] at e2
  by_cases d205 : S.i 43 = 205
  · rw [if_neg (show ¬ S.i 43 = 204 by rw [d205]; decide), if_pos d205] at e2
    exact OUTS.m (st_while hN hm1 hm2 hE2 hC hS hT hm (lp (Or.inl d205)) hB d205 e1 (ob_un e2) g)
  by_cases d206 : S.i 43 = 206
  · rw [if_neg (show ¬ S.i 43 = 204 by rw [d206]; decide), if_neg d205, if_pos d206] at e2
    exact OUTS.m (st_do hN hC hS hT hm (lp (Or.inr (Or.inl d206))) hB d206 e1 (ob_un e2) g)
  by_cases d207 : S.i 43 = 207
  · rw [if_neg (show ¬ S.i 43 = 204 by rw [d207]; decide), if_neg d205, if_neg d206, if_pos d207] at e2
    exact OUTS.m (st_for hN hm1 hm2 hE hE2 hC hS hT hm (lp (Or.inr (Or.inr d207))) hB d207 e1 (ob_un e2) g)
  by_cases d212 : S.i 43 = 212
  · rw [if_neg (show ¬ S.i 43 = 204 by rw [d212]; decide), if_neg d205, if_neg d206, if_neg d207, if_neg d208, if_neg d209, if_neg d210, if_neg d211, if_pos d212] at e2
    exact OUTS.n (st_lock hN hC hS hT hm (ot d205 d206 d207) d212 e1 (ob_un e2) g)
  by_cases d213 : S.i 43 = 213
  · rw [if_neg (show ¬ S.i 43 = 204 by rw [d213]; decide), if_neg d205, if_neg d206, if_neg d207, if_neg d208, if_neg d209, if_neg d210, if_neg d211, if_neg d212, if_pos d213] at e2
    exact OUTS.n (st_try hN hC hS hT hm (ot d205 d206 d207) d213 e1 (ob_un e2) g)
  by_cases d218 : S.i 43 = 218
  · rw [if_neg (show ¬ S.i 43 = 204 by rw [d218]; decide), if_neg d205, if_neg d206, if_neg d207, if_neg d208, if_neg d209, if_neg d210, if_neg d211, if_neg d212, if_neg d213, if_neg (show ¬ S.i 43 = 214 by rw [d218]; decide), if_neg (show ¬ S.i 43 = 215 by rw [d218]; decide), if_neg (show ¬ S.i 43 = 216 by rw [d218]; decide), if_neg d217, if_pos d218] at e2
    exact OUTS.n (st_switch hN hm1 hm2 hE hC hS hT hm (ot d205 d206 d207) d218 e1 (ob_un e2) g)
  -- misplaced
  have mis : ¬ R.2.i 32 = 0 := by
    rw [if_neg d205, if_neg d206, if_neg d207, if_neg d208, if_neg d209, if_neg d210, if_neg d211, if_neg d212, if_neg d213, if_neg d217, if_neg d218] at e2
    by_cases z4 : S.i 43 = 204
    · rw [if_pos z4] at e2
      exact y_misp (ob_un e2)
    rw [if_neg z4] at e2
    by_cases z14 : S.i 43 = 214
    · rw [if_pos z14] at e2
      exact y_misp (ob_un e2)
    rw [if_neg z14] at e2
    by_cases z15 : S.i 43 = 215
    · rw [if_pos z15] at e2
      exact y_misp (ob_un e2)
    rw [if_neg z15] at e2
    by_cases z16 : S.i 43 = 216
    · rw [if_pos z16] at e2
      exact y_misp (ob_un e2)
    rw [if_neg z16] at e2
    exact y_misp (ob_un e2)
  obtain ⟨m1, V1, hV1, g1⟩ := rl_2 g q4 hv.1.2.1 q5
  refine Or.inl ⟨mis, u_flt g1 (r_mst q4 (fun v h q => ?_) hV1)⟩
  rw [q] at k203 k205 k206 k207 k212 k213 k218 k200 k201 k202 k210 k221 k211 k217 k208 k209 k2 k59 k123
  rcases h with h | h | h | h | h | h | h | h | h | h | h | h | h | h | h | h | h | h | h
  · exact n123 (k123.mpr h)
  · exact d200 (k200.mpr h)
  · exact d201 (k201.mpr h)
  · exact n2 (k2.mpr h)
  · exact d202 (k202.mpr h)
  · exact d210 (k210.mpr h)
  · exact d221 (k221.mpr h)
  · exact d211 (k211.mpr h)
  · exact d217 (k217.mpr h)
  · exact d203 (k203.mpr h)
  · exact d205 (k205.mpr h)
  · exact d206 (k206.mpr h)
  · exact d207 (k207.mpr h)
  · exact d212 (k212.mpr h)
  · exact d218 (k218.mpr h)
  · exact d213 (k213.mpr h)
  · exact d59 (k59.mpr h)
  · exact d208 (k208.mpr h)
  · exact d209 (k209.mpr h)
/-- a statement, whole; x1: it is a body -/
theorem st_any {N : Nat} (hN : 1000 ≤ N) {E1 : CS → Option (Unit × CS)} {E2 : CS → Option (Int32 × CS)} (hm1 : ∀ σ, Kf (CS.i σ 32) (E1 σ)) (hm2 : ∀ σ, Kf (CS.i σ 32) (E2 σ)) (hE : SXR N 18 E1) (hE2 : SXN N 22 E2) {d : Int32} {B : CS} {b : RS} {t0 T n : Nat} {L : List CEL} {x : Int} {S : CS} {s U : RS} {c : CEL} {x1 : Int32} {R : Unit × CS} {Aj : JBA} (hY : YBA Aj U B b) (hC : COR d B b t0 (c :: L) x S s) (hS : STO c T S s) (hT : t0 ≤ T) (hm : NMC c S) (hx : S.o c.2.1 0 = 303 → x = lcd s) (hB : BOT b S (c :: L)) (hBS : BSE S (c :: L)) (hB2 : BO2 B b S (c :: L)) (h1b : isOne (S.o c.2.1 0) → ¬ s.i 10 = 410 ∧ ¬ s.i 10 = 411) (hx1 : x1 = 0 ∨ isOne (S.o c.2.1 0)) (e : f_X7_statement_18 N E1 E2 S x1 = some R) (g : f_X12_parse_10 N n s = some U) : OUTS N d B b t0 T c L x R.2 U (JTR Aj U B b (c :: L) S s) := by
  have hv := hC.1
  have k2 := tk_is hv (a := 2) (b := 2) (Or.inl ⟨by decide, by decide⟩) (by decide)
  have k123 := tk_is hv (a := 123) (b := 123) (Or.inl ⟨by decide, by decide⟩) (by decide)
  have k200 := tk_is hv (a := 200) (b := 410) (Or.inr ⟨by decide, by decide⟩) (by decide)
  have k201 := tk_is hv (a := 201) (b := 411) (Or.inr ⟨by decide, by decide⟩) (by decide)
  have i43 : (CS.setI (CS.setI S 36 1) 24 ((S.i 24) + 1)).i 43 = S.i 43 := by
    rw [ci_ne _ _ _ (by decide), ci_ne _ _ _ (by decide)]
  unfold f_X7_statement_18 at e
  obtain ⟨p2, ep2, e⟩ := hf_bind e
  by_cases c2 : S.i 43 = 2
  · rw [e_fnd1 (i43.trans c2)] at ep2
    rw [← Option.some.inj ep2, if_neg n10] at e
    have hx2 : S.o c.2.1 0 = 303 → x = -2 := fun z => by
      rw [hx z]
      unfold lcd
      rw [k2.mp c2, if_neg (by decide), if_pos rfl]
    exact st_named hN hm1 hm2 hE hC hS hT hm hx2 hB hBS c2 (ob_un e) g
  · rw [e_fnd0 (by rw [i43]; exact c2)] at ep2
    rw [← Option.some.inj ep2, if_pos rfl] at e
    obtain ⟨p7, ep7, e⟩ := hf_bind e
    by_cases c123 : S.i 43 = 123
    · rw [e_fnd1 (i43.trans c123)] at ep7
      rw [← Option.some.inj ep7, if_neg n10] at e
      obtain ⟨p35, e35, e⟩ := hf_bind e
      obtain ⟨p39, e39, e⟩ := hf_bind e
      have eR : R.2 = p39.2 := by
        cases h : p39.1 with
        | none =>
          rw [h] at e
          have e' : some ((), p39.2) = some R := e
          rw [← Option.some.inj e']
        | some a =>
          rw [h] at e
          have e' : some ((), p39.2) = some R := e
          rw [← Option.some.inj e']
      have hx2 : S.o c.2.1 0 = 303 → x = -1 := fun z => by
        rw [hx z]
        unfold lcd
        rw [k123.mp c123, if_neg (by decide), if_neg (by decide)]
      rw [eR]
      exact OUTS.n (st_block hN hC hS hT hm hx2 c123 e35 e39 g)
    · rw [e_fnd0 (by rw [i43]; exact c123)] at ep7
      rw [← Option.some.inj ep7, if_pos rfl] at e
      have e122 : f_X7_statement_122 N E1 E2 (CS.setI (CS.setI S 36 1) 24 ((S.i 24) + 1)) = some R := by
        by_cases z : x1 = 0
        · rw [if_pos z] at e
          exact e
        · obtain ⟨z1, z2⟩ := h1b (hx1.resolve_left z)
          rw [if_neg z] at e
          obtain ⟨p21, ep21, e⟩ := hf_bind e
          rw [e_fnd0 (by rw [i43]; exact fun q => z1 (k200.mp q))] at ep21
          rw [← Option.some.inj ep21, if_pos rfl] at e
          obtain ⟨p30, ep30, e⟩ := hf_bind e
          rw [e_fnd0 (by rw [i43]; exact fun q => z2 (k201.mp q))] at ep30
          rw [← Option.some.inj ep30, if_pos rfl] at e
          exact e
      unfold f_X7_statement_122 at e122
      obtain ⟨p, e1, e122⟩ := hf_bind e122
      exact st_plain hN hm1 hm2 hE hE2 hY hC hS hT hm hx hB hBS hB2 (fun q => ⟨fun w => (h1b q).1 (k200.mp w), fun w => (h1b q).2 (k201.mp w)⟩) c2 c123 e1 (ob_un e122) g
end
section
/-! both readers: chains are aimed, a row goes -/
/-- instructions that no row below looks at -/
def FRE (S : CS) (s : RS) (L : List CEL) (col : Nat → Option (Nat × Bool)) (b20 : Int) (k : Nat) : Prop := b20 ≤ (k : Int) ∧ col k = none ∧ ∀ q ∈ L, S.o q.2.1 0 = 218 → ¬ (k : Int) = (s.a 66 (ceT q)).toInt
/-- only the second word of such instructions is other -/
def E22 (F : Nat → Prop) (s u : RS) : Prop := u.i = s.i ∧ u.l = s.l ∧ u.b = s.b ∧ (∀ k : Nat, k ≠ 22 → u.a k = s.a k) ∧ ∀ j : Nat, ¬ F j → u.a 22 j = s.a 22 j
theorem E22.rf (F : Nat → Prop) (s : RS) : E22 F s s := ⟨rfl, rfl, rfl, fun _ _ => rfl, fun _ _ => rfl⟩
theorem E22.tr {F : Nat → Prop} {s u w : RS} (h : E22 F s u) (g : E22 F u w) : E22 F s w := ⟨g.1.trans h.1, g.2.1.trans h.2.1, g.2.2.1.trans h.2.2.1, fun k hk => (g.2.2.2.1 k hk).trans (h.2.2.2.1 k hk), fun j hj => (g.2.2.2.2 j hj).trans (h.2.2.2.2 j hj)⟩
theorem E22.set {F : Nat → Prop} {s : RS} {j : Nat} {v : Int32} (h : F j) : E22 F s (RS.setA s 22 j v) := ⟨rfl, rfl, rfl, fun k hk => setA_nk hk, fun i hi => setA_ne (fun z => hi (by rw [z]; exact h))⟩
theorem chn.e22 {F : Nat → Prop} {s u : RS} (h : E22 F s u) : ∀ (L : List Nat) (k : Int32), chn s k L → chn u k L
  | [], _, g => g
  | j :: L, k, g => ⟨g.1, by rw [h.1]; exact g.2.1, g.2.2.1, by rw [h.2.2.2.1 27 (by decide)]; exact chn.e22 h L _ g.2.2.2⟩
theorem kch.e22 {F : Nat → Prop} {s u : RS} (h : E22 F s u) : ∀ (L : List Nat) (k : Int32), kch s k L → kch u k L
  | [], _, g => g
  | j :: L, k, g => ⟨g.1, by rw [h.1]; exact g.2.1, g.2.2.1, by rw [h.2.2.2.1 37 (by decide)]; exact kch.e22 h L _ g.2.2.2⟩
theorem RFR.e22 {F : Nat → Prop} {S : CS} {s u : RS} {a t g w : Nat} (h : E22 F s u) (r : RFR S s a t g w) : RFR S u a t g w := by
  have e := fun k hk => h.2.2.2.1 k hk
  unfold RFR F301 F302 F303 F203 F204 F205 F206 F207 F304 F212 F301 F218 FTR FTS F301 FBL at *
  rw [e 64 (by decide), e 65 (by decide), e 66 (by decide), e 67 (by decide), e 68 (by decide), e 71 (by decide), e 72 (by decide), e 73 (by decide), e 44 (by decide), e 57 (by decide), e 58 (by decide), h.1, h.2.2.1]
  exact r
theorem CST.e22 {F : Nat → Prop} {S : CS} {s u : RS} {c : CEL} {m e k m' e' k' : Int} (h : E22 F s u) (g : CST S s c m e k m' e' k') (nf : S.o c.2.1 0 = 218 → ¬ F (s.a 66 (ceT c)).toNatClampNeg) : CST S u c m e k m' e' k' := by
  obtain ⟨g1, g2, g3, g4, g5, g6, g7⟩ := g
  have ea := fun k hk => h.2.2.2.1 k hk
  have a66 := ea 66 (by decide)
  refine ⟨g1, g2, g3.e22 h, g4, fun q => ?_, g6, fun q => ?_⟩
  · obtain ⟨x1, x2, x3, L, y1, y2, y3, y4⟩ := g5 q
    rw [a66, h.2.2.2.2 _ (nf q), h.1]
    refine ⟨x1, x2, x3, L, ?_, chn.e22 h _ _ y2, ?_, y4⟩
    · unfold CSM at *
      rw [ea 28 (by decide), ea 25 (by decide)]
      exact y1
    · unfold FQL at *
      rw [ea 67 (by decide)]
      exact y3
  · obtain ⟨x1, L, y1, y2, y3, y4⟩ := g7 q
    rw [a66, ea 30 (by decide), ea 72 (by decide)]
    refine ⟨x1, L, kch.e22 h _ _ y1, ?_, y3, y4⟩
    unfold KMK at *
    rw [ea 34 (by decide)]
    exact y2
theorem LOW.e22 {F : Nat → Prop} {S : CS} {s u : RS} {c : CEL} (h : E22 F s u) (g : LOW S s c) : LOW S u c := by
  unfold LOW at *
  rw [h.2.2.2.1 65 (by decide), h.2.2.2.1 64 (by decide)]
  exact g
theorem STK.e22 {F : Nat → Prop} {S : CS} {s u : RS} (h : E22 F s u) : ∀ (L : List CEL) (m e k : Int), (∀ q ∈ L, S.o q.2.1 0 = 218 → ¬ F (s.a 66 (ceT q)).toNatClampNeg) → STK S s L m e k → STK S u L m e k
  | [], _, _, _, _, _ => trivial
  | c :: L, m, e, k, nf, g => by
    obtain ⟨m', e', k', g1, g2, g3⟩ := g
    exact ⟨m', e', k', g1.e22 h (nf c List.mem_cons_self), fun c0 hc => ⟨(g2 c0 hc).1, (g2 c0 hc).2.e22 h⟩, STK.e22 h L m' e' k' (fun q hq => nf q (List.mem_cons_of_mem _ hq)) g3⟩
theorem JMQ.e22 {F : Nat → Prop} {S : CS} {s u : RS} {L : List CEL} {B59 B29 : Int} (h : E22 F s u) (g : JMQ S s L B59 B29) : JMQ S u L B59 B29 := by
  have e := fun k hk => h.2.2.2.1 k hk
  unfold JMQ PND flg at *
  rw [e 50 (by decide), e 51 (by decide), e 60 (by decide), e 61 (by decide), e 62 (by decide), e 66 (by decide), h.1]
  exact g
theorem COL.e22 {S : CS} {s u : RS} {L : List CEL} {col : Nat → Option (Nat × Bool)} {b20 : Int} (g : COL S s L col b20) (h : E22 (FRE S s L col b20) s u) : COL S u L col b20 := by
  obtain ⟨h1, h2, h3, h4, h5, h6, h7⟩ := g
  have e := fun k hk => h.2.2.2.1 k hk
  have z2 : ∀ (k : Nat) (x : Nat × Bool), col k = some x → (u.a 22 k).toInt < 0 ∨ ∃ j : Nat, (u.a 22 k).toInt = (j : Int) ∧ j < k ∧ col j = some x := fun k x q => by
    rw [h.2.2.2.2 k (fun z => by rw [z.2.1] at q; cases q)]
    exact h2 k x q
  unfold COL PLF at *
  rw [e 48 (by decide), e 49 (by decide), e 66 (by decide), e 67 (by decide), e 68 (by decide), h.1]
  exact ⟨h1, z2, h3, h4, h5, h6, h7⟩
theorem ENV.e22 {F : Nat → Prop} {d : Int32} {S : CS} {s u : RS} (h : E22 F s u) (g : ENV d S s) : ENV d S u := by
  obtain ⟨ei, el, eb, ea, -⟩ := h
  refine g.kq (by rw [ei]) (by rw [ei]) (by rw [ei]) (by rw [ei]) (by rw [ei]) (by rw [ei]) (by rw [ei]) (ea 1 (by decide)) (ea 4 (by decide)) (ea 41 (by decide)) (by rw [eb]) (by rw [eb]) (by rw [ei]) (by rw [ei]) (by rw [ei]) (by rw [ei]) (by rw [ei]) (by rw [ei]) (by rw [ei]) el ?_ ?_
  · unfold phI
    rw [ei]
    exact ⟨g.2.2.2.2.2.2.1, g.2.2.2.2.2.2.2.1⟩
  · have w := g.wp
    unfold WPI at *
    rw [ei, ea 58 (by decide), ea 62 (by decide)]
    exact w
theorem COR.e22 {d : Int32} {B : CS} {b : RS} {t0 : Nat} {L : List CEL} {x : Int} {S : CS} {s u : RS} {col : Nat → Option (Nat × Bool)} (h : COR d B b t0 L x S s) (hc : COL S s L col (b.i 20).toInt) (g : E22 (FRE S s L col (b.i 20).toInt) s u) : COR d B b t0 L x S u ∧ COL S u L col (b.i 20).toInt := by
  have cu := hc.e22 g
  obtain ⟨h1, h2, h3, h4, h5, ⟨h6, h7, h8, h9⟩, h10, h13, h14, h17, ⟨h18, h19, h20, -⟩⟩ := h
  obtain ⟨ei, el, eb, ea, e22⟩ := id g
  refine ⟨⟨h1.e22 g, ?_, h3.e22 g, LBC.mv L x h4 (fun _ _ => rfl) (fun _ _ _ => by rw [ea 46 (by decide)]), h5, ⟨?_, ?_, ?_, ?_⟩, ?_, ⟨h13.1, h13.2.1, h13.2.2.1, h13.2.2.2.1, fun y hy => ⟨fun t z => by rw [ea 72 (by decide)] at z ⊢; exact (h13.2.2.2.2 y hy).1 t z, fun t z => by rw [ea 67 (by decide)] at z ⊢; exact (h13.2.2.2.2 y hy).2 t z⟩⟩, ?_, ?_, h18, h19, h20, col, cu⟩, cu⟩
  · rw [ei]
    refine STK.e22 g _ _ _ _ (fun q hq t z => ?_) h2
    have z1 := z.2.2 q hq t
    have z3 := (hc.2.2.2.2.1 q hq t).1
    have z2 : (((s.a 66 (ceT q)).toNatClampNeg : Nat) : Int) = (s.a 66 (ceT q)).toInt := by
      show (((s.a 66 (ceT q)).toInt.toNat : Nat) : Int) = _
      omega
    exact z1 z2
  · intro j hj
    have z := h6 j hj
    rw [ea 64 (by decide), ea 65 (by decide), ea 66 (by decide), ea 67 (by decide), ea 68 (by decide), ea 69 (by decide), ea 70 (by decide), ea 71 (by decide), ea 72 (by decide), ea 73 (by decide), eb]
    exact z
  · unfold TBB at *
    rw [ei, eb, ea 40 (by decide), ea 41 (by decide), ea 44 (by decide), ea 46 (by decide), ea 47 (by decide), ea 48 (by decide), ea 49 (by decide), ea 50 (by decide), ea 51 (by decide), ea 57 (by decide), ea 58 (by decide), ea 60 (by decide), ea 61 (by decide), ea 62 (by decide), ea 30 (by decide), ea 34 (by decide), ea 37 (by decide), ea 25 (by decide), ea 27 (by decide), ea 28 (by decide)]
    exact h7
  · refine ⟨by rw [ei]; exact h8.1, fun j hj => ?_⟩
    rw [e22 j (fun z => by have := z.1; omega)]
    exact h8.2 j hj
  · rw [ei, eb, ea 1 (by decide), ea 4 (by decide)]
    exact h9
  · unfold phI at *
    rw [ei]
    exact h10
  · rw [ei]
    exact h14
  · unfold IAR at *
    rw [ei, ea 44 (by decide)]
    exact h17
/-- the chain of one colour is aimed -/
theorem pt_e22 {N : Nat} {F : Nat → Prop} {col : Nat → Option (Nat × Bool)} {κ : Nat × Bool} (hF : ∀ k : Nat, col k = some κ → F k) : ∀ (n M : Nat) (s V : RS) (x2 x3 : Int32), (∀ k : Nat, col k = some κ → k < M → (s.a 22 k).toInt < 0 ∨ ∃ j : Nat, (s.a 22 k).toInt = (j : Int) ∧ j < k ∧ col j = some κ) → (x3.toInt < 0 ∨ ∃ j : Nat, x3.toInt = (j : Int) ∧ j < M ∧ col j = some κ) → f_X12_patch_2 N n s x2 x3 = some V → E22 F s V
  | 0, _, _, _, _, _, _, _, e => by cases e
  | n + 1, M, s, V, x2, x3, hs, hx, e => by
    have e' : b_X12_patch_2 N (f_X12_patch_2 N n) s x2 x3 = some V := e
    unfold b_X12_patch_2 at e'
    by_cases c : x3 < 0
    · rw [if_pos c] at e'
      rw [← Option.some.inj e']
      exact E22.rf F s
    · rw [if_neg c] at e'
      obtain ⟨hib, e'⟩ := hf_ite e'
      rcases hx with hx | ⟨j, j1, j2, j3⟩
      · exact absurd (Int32.lt_iff_toInt_lt.mpr (by rw [z_t0]; exact hx)) c
      · have jn : x3.toNatClampNeg = j := by
          show x3.toInt.toNat = j
          omega
        rw [jn] at e'
        have z := pt_e22 hF n j (RS.setA s 22 j x2) V x2 (s.a 22 j) (fun k k1 k2 => by
          rw [setA_ne (show k ≠ j by omega)]
          exact hs k k1 (by omega)) (hs j j3 j2) e'
        exact (E22.set (hF j j3)).tr z
theorem pt_in {N : Nat} {F : Nat → Prop} {S : CS} {L : List CEL} {col : Nat → Option (Nat × Bool)} {b20 : Int} {κ : Nat × Bool} {s V : RS} {x1 x2 : Int32} (hc : COL S s L col b20) (hF : ∀ k : Nat, col k = some κ → F k) (hx : x1.toInt < 0 ∨ ∃ j : Nat, x1.toInt = (j : Int) ∧ col j = some κ) (e : f_X12_patch N s x1 x2 = some V) : E22 F s V := by
  refine pt_e22 hF N (x1.toInt.toNat + 1) s V x2 x1 (fun k hk _ => hc.2.1 k κ hk) ?_ e
  rcases hx with hx | ⟨j, j1, j2⟩
  · exact Or.inl hx
  · exact Or.inr ⟨j, j1, by omega, j2⟩
/-- a row's colours go -/
def cdr (g : Nat) (col : Nat → Option (Nat × Bool)) (k : Nat) : Option (Nat × Bool) := match col k with
  | some x => if x.1 = g then none else some x
  | none => none
theorem cdrS {g k : Nat} {col : Nat → Option (Nat × Bool)} {x : Nat × Bool} (h : cdr g col k = some x) : col k = some x ∧ ¬ x.1 = g := by
  unfold cdr at h
  cases h1 : col k with
  | none =>
    rw [h1] at h
    cases h
  | some y =>
    rw [h1] at h
    have h2 : (if y.1 = g then none else Option.some y) = Option.some x := h
    by_cases c : y.1 = g
    · rw [if_pos c] at h2
      cases h2
    · rw [if_neg c] at h2
      have e := Option.some.inj h2
      rw [← e]
      exact ⟨rfl, c⟩
theorem cdrK {g k : Nat} {col : Nat → Option (Nat × Bool)} {x : Nat × Bool} (h : col k = some x) (n : ¬ x.1 = g) : cdr g col k = some x := by
  unfold cdr
  rw [h]
  exact if_neg n
theorem cdrN {g k : Nat} {col : Nat → Option (Nat × Bool)} (h : col k = none) : cdr g col k = none := by
  unfold cdr
  rw [h]
theorem cdrG {g k : Nat} {col : Nat → Option (Nat × Bool)} {x : Nat × Bool} (h : col k = some x) (n : x.1 = g) : cdr g col k = none := by
  unfold cdr
  rw [h]
  exact if_pos n
theorem COL.drop {S : CS} {s : RS} {L : List CEL} {c1 : CEL} {col : Nat → Option (Nat × Bool)} {b20 : Int} (h : COL S s (c1 :: L) col b20) (inj : ∀ y ∈ L, isGo (S.o y.2.1 0) → ¬ ceG y = ceG c1) : COL S s L (cdr (ceG c1) col) b20 := by
  obtain ⟨h1, h2, h3, h4, h5, h6, h7⟩ := h
  refine ⟨fun k x e => h1 k x (cdrS e).1, fun k x e => ?_, fun c hc q => ?_, fun k g e q => ?_, fun c hc q => ?_, fun c hc q hq => h6 c (List.mem_cons_of_mem _ hc) q (List.mem_cons_of_mem _ hq), fun c hc k p => ?_⟩
  · obtain ⟨e1, e2⟩ := cdrS e
    rcases h2 k x e1 with z | ⟨j, j1, j2, j3⟩
    · exact Or.inl z
    · exact Or.inr ⟨j, j1, j2, cdrK j3 e2⟩
  · obtain ⟨z1, z2⟩ := h3 c (List.mem_cons_of_mem _ hc) q
    have n := inj c hc q
    refine ⟨?_, ?_⟩
    · rcases z1 with z | ⟨j, j1, j2⟩
      · exact Or.inl z
      · exact Or.inr ⟨j, j1, cdrK j2 n⟩
    · rcases z2 with z | ⟨j, j1, j2⟩
      · exact Or.inl z
      · exact Or.inr ⟨j, j1, cdrK j2 n⟩
  · obtain ⟨e1, e2⟩ := cdrS q
    obtain ⟨c, hc, g1, g2⟩ := h4 k g e e1
    rcases List.mem_cons.mp hc with e0 | hc
    · rw [e0] at g2
      exact absurd g2.symm e2
    · exact ⟨c, hc, g1, g2⟩
  · obtain ⟨z1, z2, z3⟩ := h5 c (List.mem_cons_of_mem _ hc) q
    exact ⟨z1, z2, cdrN z3⟩
  · obtain ⟨z1, z2, z3, z4⟩ := h7 c (List.mem_cons_of_mem _ hc) k p
    exact ⟨z1, z2, cdrN z3, fun q hq => z4 q (List.mem_cons_of_mem _ hq)⟩
/-- what the row's chains and its waiting instruction are to the rows below -/
theorem COL.fre {S : CS} {s : RS} {L : List CEL} {c1 : CEL} {col : Nat → Option (Nat × Bool)} {b20 : Int} (h : COL S s (c1 :: L) col b20) (b0 : 0 ≤ b20) : (∀ (k : Nat) (e : Bool), col k = some (ceG c1, e) → FRE S s L (cdr (ceG c1) col) b20 k) ∧ (∀ k : Int, PLF S s c1 k → FRE S s L (cdr (ceG c1) col) b20 k.toNat) := by
  obtain ⟨h1, h2, h3, h4, h5, h6, h7⟩ := h
  refine ⟨fun k e q => ⟨(h1 k _ q).1, cdrG q rfl, fun y hy t z => ?_⟩, fun k p => ?_⟩
  · have z1 := (h5 y (List.mem_cons_of_mem _ hy) t).2.2
    rw [← z, Int.toNat_natCast, q] at z1
    cases z1
  · obtain ⟨z1, z2, z3, z4⟩ := h7 c1 List.mem_cons_self k p
    refine ⟨by omega, cdrN z3, fun y hy t z => z4 y (List.mem_cons_of_mem _ hy) t (by omega)⟩
/-- a row goes, the state stays -/
theorem COR.dropW {d : Int32} {B : CS} {b : RS} {t0 : Nat} {L : List CEL} {x : Int} {S : CS} {s : RS} {c1 c : CEL} (h : COR d B b t0 (c1 :: c :: L) x S s) (nt : ¬ isTy (S.o c1.2.1 0)) (ns : ¬ S.o c1.2.1 0 = 218) (nd : nDp (S.o c1.2.1 0) = 0) {w : Int32} (hw : w.toInt = (b.i 19).toInt + (nSg (S.o c1.2.1 0) : Int)) : COR d B (RS.setI b 19 w) t0 (c :: L) (-9) S s ∧ (∀ y ∈ c :: L, isGo (S.o y.2.1 0) → ¬ ceG y = ceG c1) ∧ (∀ y ∈ c :: L, y.1 < c1.1) ∧ LNK S c1 c ∧ LOW S s c := by
  obtain ⟨h1, h2, h3, h4, h5, h6, ⟨h10, h11, h12, hsg⟩, h13, h14, h17, ⟨h18, h19, h20, col, h21⟩⟩ := h
  have ord := STK.ord (c :: L) c1 _ _ _ h2
  obtain ⟨inj1, inj2⟩ := STK.inj (c1 :: c :: L) _ _ _ h2
  have inj : ∀ y ∈ c :: L, isGo (S.o y.2.1 0) → ¬ ceG y = ceG c1 := fun y hy g z => by
    have := (inj2 y (List.mem_cons_of_mem _ hy) c1 List.mem_cons_self (ord y hy)).2.1
    have := nGo1 g
    omega
  have st := STK.drop h2
  rw [if_neg ns] at st
  have d0 : 0 ≤ dbt (S.o c1.2.1 0) := by
    unfold dbt
    by_cases c1' : S.o c1.2.1 0 = 205 ∨ S.o c1.2.1 0 = 207
    · rw [if_pos c1']; omega
    · rw [if_neg c1']
      by_cases c2 : S.o c1.2.1 0 = 304
      · rw [if_pos c2]; omega
      · rw [if_neg c2]; omega
  have e1 : PDM S (c1 :: c :: L) = dbt (S.o c1.2.1 0) + PDM S (c :: L) := rfl
  have e2 : DSM S (c1 :: c :: L) = (nDp (S.o c1.2.1 0) : Int) + DSM S (c :: L) := rfl
  rw [e1] at h11
  rw [e2, nd] at h13
  obtain ⟨h13, h13b⟩ := h13
  have cf : cfl S (c :: L) (S.i 22).toInt = (B.i 22).toInt := by
    have z := h13b.2.2.1
    have e3 : cfl S (c1 :: c :: L) (S.i 22).toInt = cfl S (c :: L) (if S.o c1.2.1 0 = 218 then (S.o c1.2.1 13).toInt else (S.i 22).toInt) := rfl
    rw [e3, if_neg ns] at z
    exact z
  obtain ⟨m', e', k', g1, g2, g3⟩ := h2
  obtain ⟨l1, l2⟩ := g2 c rfl
  have e5 : SSM S (c1 :: c :: L) = (nSg (S.o c1.2.1 0) : Int) + SSM S (c :: L) := rfl
  rw [e5] at hsg
  have hsw : (s.i 19).toInt = w.toInt + SSM S (c :: L) := by omega
  have hph : phI b + PDM S (c :: L) ≤ phI s := by omega
  have hds : (S.i 38).toInt = (B.i 38).toInt + DSM S (c :: L) := by omega
  exact ⟨⟨h1, st, h3.drop nt ord, h4.drop, h5, h6, ⟨h10, hph, h12, hsw⟩, ⟨hds, fun y hy => h13b.1 y (List.mem_cons_of_mem _ hy), fun y hy z hz => h13b.2.1 y (List.mem_cons_of_mem _ hy) z (List.mem_cons_of_mem _ hz), cf, fun y hy => h13b.2.2.2 y (List.mem_cons_of_mem _ hy)⟩, h14, h17, ⟨h18, h19, h20, _, h21.drop inj⟩⟩, inj, ord, l1, l2⟩
theorem COR.drop {d : Int32} {B : CS} {b : RS} {t0 : Nat} {L : List CEL} {x : Int} {S : CS} {s : RS} {c1 c : CEL} (h : COR d B b t0 (c1 :: c :: L) x S s) (nt : ¬ isTy (S.o c1.2.1 0)) (ns : ¬ S.o c1.2.1 0 = 218) (nd : nDp (S.o c1.2.1 0) = 0) (ng : nSg (S.o c1.2.1 0) = 0) : COR d B b t0 (c :: L) (-9) S s ∧ (∀ y ∈ c :: L, isGo (S.o y.2.1 0) → ¬ ceG y = ceG c1) ∧ (∀ y ∈ c :: L, y.1 < c1.1) ∧ LNK S c1 c ∧ LOW S s c := by
  have z := h.dropW nt ns nd (w := b.i 19) (by rw [ng]; omega)
  rw [rsI_id rfl] at z
  exact z
/-- as COR.mv, but rows, goals, walls and names may be fewer -/
theorem COR.mv2 {d : Int32} {B : CS} {b : RS} {t0 T : Nat} {L : List CEL} {x : Int} {S R : CS} {s u : RS} (h : COR d B b t0 L x S s) (hin : INL S s T L) (hT : t0 ≤ T) (ev : ENV d R u) (f : FRB T s u) (tb : TBR s u) (cd : CDK (s.i 20).toInt s u) (nm : u.i 2 = s.i 2 ∧ u.i 3 = s.i 3 ∧ u.i 8 = s.i 8 ∧ u.a 1 = s.a 1 ∧ u.a 4 = s.a 4 ∧ u.b 9 = s.b 9) (ck : CKZ S R) (i38 : R.i 38 = S.i 38) (i56 : R.i 56 = S.i 56) (o50 : ∀ y ∈ L, (S.o y.2.1 3).toInt ≤ (R.i 50).toInt) (h53 : (B.i 53).toInt ≤ (R.i 53).toInt) (h38 : (b.i 38).toInt ≤ (u.i 38).toInt) (h43 : (b.i 43).toInt ≤ (u.i 43).toInt) (h56 : (b.i 56).toInt ≤ (u.i 56).toInt) (iar : IAR R u) (rt : RTE S R) (q : (s.i 11).toInt ≤ (u.i 11).toInt ∧ phI b + PDM S L ≤ phI u ∧ (s.i 17).toInt ≤ (u.i 17).toInt ∧ (u.i 19).toInt = (s.i 19).toInt) (n8 : 8 * ((u.i 38).toInt - 2) ≤ (u.i 11).toInt) : COR d B b t0 L x R u := by
  obtain ⟨h1, h2, h3, h4, h5, ⟨h6, h7, h8, h9⟩, ⟨h10, h11, h12, hsg⟩, h13, ⟨h14, h15, h16⟩, h17, ⟨h18, h19, h20, col, h21⟩⟩ := h
  have eo := fun c hc => (hin.o ck c hc).1
  obtain ⟨d1, d2⟩ := DSM.eq L eo
  obtain ⟨m1, m2, m3, m7, m8, m9⟩ := nm
  have k11 := h1.1.2.2.2.1.1
  have k11' := ev.1.2.2.2.1.1
  have rt' := rt
  unfold RTE at rt'
  rw [k11, k11'] at rt'
  have sj := h1.sj
  refine ⟨ev, ?_, h3.mv h18 sj.1 hin ck f tb, LBC.mv L x h4 eo (fun c hc z => ?_), h5.mv ck rt h53 i56, ⟨h6.tr (f.mo hT), h7.mv tb h38 h43 h56, h8.tr (cd.wk h8.1), ⟨m1.trans h9.1, m2.trans h9.2.1, m3.trans h9.2.2.1, m7.trans h9.2.2.2.1, m8.trans h9.2.2.2.2.1, m9.trans h9.2.2.2.2.2⟩⟩, ⟨by omega, by rw [d2]; omega, by omega, by rw [SSM.eo L eo]; omega⟩, ⟨by rw [i38, d1]; exact h13.1, fun y hy => by rw [eo y hy]; exact ⟨(h13.2.1 y hy).1, o50 y hy⟩, fun y hy z hz l => by rw [eo y hy, eo z hz]; exact h13.2.2.1 y hy z hz l, by rw [cfl.eq L _ eo, ck.1]; exact h13.2.2.2.1, fun y hy => ⟨fun t z => by rw [eo y hy] at t; rw [(FRB72 hin f y hy).1] at z ⊢; exact (h13.2.2.2.2 y hy).1 t z, fun t z => by rw [eo y hy] at t; rw [(FRB72 hin f y hy).2] at z ⊢; exact (h13.2.2.2.2 y hy).2 t z⟩⟩, ⟨by omega, n8, by omega⟩, iar, h18, h19, h20, col, h21.mv h20 hin ck f tb cd⟩
  · have st := STK.mv ck f tb cd L _ _ _ h2 hin (Int.le_refl _) (Int.le_refl _) (Int.le_refl _)
    rw [ck.1]
    exact st.hi (tb.2.2.2.2.2.2.2.2.2.1) (tb.2.2.2.2.2.2.2.1)
  · exact (tb.2.1 (ceG c) ((hin c hc).2.2.2.1 (Or.inl z))).2.2.1
end
section
/-! both readers: whether a goal is gone to; what stands behind a statement -/
theorem e_jt {N a : Nat} {X : CS} {xc : Int32} {bb : Int} {j : Int32 × CS} (hb : (xc = 0 ∧ bb = 0) ∨ (xc = 1 ∧ bb = 1)) (h1 : 0 ≤ (X.o a 1).toInt ∧ (X.o a 1).toInt < 1000) (ej : f_X6_jumpTo N X a xc = some j) : j.2 = X ∧ j.1.toInt = 2 * (X.o a 1).toInt + bb := by
  have e0 : (0 : Int32).toInt = 0 := by decide
  have e1 : (1 : Int32).toInt = 1 := by decide
  have m2 := mul2 h1.1 (by omega)
  unfold f_X6_jumpTo at ej
  obtain ⟨-, ej⟩ := hf_ite ej
  rcases hb with ⟨z1, z2⟩ | ⟨z1, z2⟩
  · rw [if_pos z1] at ej
    rw [← Option.some.inj ej]
    refine ⟨rfl, ?_⟩
    show (2 * X.o a 1 + 0).toInt = _
    rw [toInt_add (by rw [m2, e0]; omega) (by rw [m2, e0]; omega), m2, e0, z2]
  · rw [if_neg (by rw [z1]; decide)] at ej
    rw [← Option.some.inj ej]
    refine ⟨rfl, ?_⟩
    show (2 * X.o a 1 + 1).toInt = _
    rw [toInt_add (by rw [m2, e1]; omega) (by rw [m2, e1]; omega), m2, e1, z2]
theorem y_gone5 {N a : Nat} {S : CS} {xc : Int32} {bb : Int} (hb : (xc = 0 ∧ bb = 0) ∨ (xc = 1 ∧ bb = 1)) (h1 : 0 ≤ (S.o a 1).toInt ∧ (S.o a 1).toInt < 1000) (h55 : (S.i 55).toInt < 160) : ∀ (n : Nat) (x3 : Int32) (P : Int32 × CS), 0 ≤ x3.toInt → f_X6_isGoneTo_5 N n S a xc x3 = some P → P.2 = S ∧ ((P.1 = 1 ∧ ∃ i : Nat, x3.toInt ≤ (i : Int) ∧ (i : Int) < (S.i 55).toInt ∧ (S.a 52 i).toInt = 2 * (S.o a 1).toInt + bb) ∨ (P.1 = 0 ∧ ∀ i : Nat, x3.toInt ≤ (i : Int) → (i : Int) < (S.i 55).toInt → ¬ (S.a 52 i).toInt = 2 * (S.o a 1).toInt + bb))
  | 0, _, _, _, e => by cases e
  | n + 1, x3, P, h0, e => by
    have e' : b_X6_isGoneTo_5 N (f_X6_isGoneTo_5 N n) S a xc x3 = some P := e
    unfold b_X6_isGoneTo_5 at e'
    by_cases c : S.i 55 ≤ x3
    · rw [if_pos c] at e'
      rw [← Option.some.inj e']
      refine ⟨rfl, Or.inr ⟨rfl, fun i i1 i2 => ?_⟩⟩
      have := le_int c
      omega
    · rw [if_neg c] at e'
      have c' : x3.toInt < (S.i 55).toInt := by
        by_cases q : (S.i 55).toInt ≤ x3.toInt
        · exact absurd (Int32.le_iff_toInt_le.mpr q) c
        · omega
      obtain ⟨j, ej, e'⟩ := hf_bind e'
      obtain ⟨j1, j2⟩ := e_jt hb h1 ej
      rw [j1] at e'
      have ga : gAt (S.a 52) 160 x3 = S.a 52 x3.toNatClampNeg := by
        unfold gAt
        exact if_pos ⟨h0, by omega⟩
      rw [ga] at e'
      have xn : ((x3.toNatClampNeg : Nat) : Int) = x3.toInt := by
        show ((x3.toInt.toNat : Nat) : Int) = _
        omega
      by_cases q : S.a 52 x3.toNatClampNeg = j.1
      · rw [if_pos q] at e'
        rw [← Option.some.inj e']
        exact ⟨rfl, Or.inl ⟨rfl, x3.toNatClampNeg, by omega, by omega, by rw [q]; exact j2⟩⟩
      · rw [if_neg q] at e'
        have x1 : (x3 + 1).toInt = x3.toInt + 1 := ad1 h0 (by omega)
        obtain ⟨r1, r2⟩ := y_gone5 hb h1 h55 n (x3 + 1) P (by omega) e'
        refine ⟨r1, ?_⟩
        rcases r2 with ⟨r2, i, i1, i2, i3⟩ | ⟨r2, r3⟩
        · exact Or.inl ⟨r2, i, by omega, i2, i3⟩
        · refine Or.inr ⟨r2, fun i i1 i2 i3 => ?_⟩
          by_cases k : (i : Int) = x3.toInt
          · have ei : i = x3.toNatClampNeg := by omega
            rw [ei] at i3
            exact q (Int32.toInt_inj.mp (by omega))
          · exact r3 i (by omega) i2 i3
/-- at the row on top: as the goal's flag -/
theorem y_gone {N : Nat} {d : Int32} {B : CS} {b : RS} {t0 : Nat} {L : List CEL} {x bb : Int} {S : CS} {s : RS} {c1 : CEL} {xc : Int32} {P : Int32 × CS} (hC : COR d B b t0 (c1 :: L) x S s) (gw : isGo (S.o c1.2.1 0)) (hb : (xc = 0 ∧ bb = 0) ∨ (xc = 1 ∧ bb = 1)) (e : f_X6_isGoneTo N S c1.2.1 xc = some P) : P.2 = S ∧ P.1 = flg s (ceG c1) bb := by
  have hv := hC.1
  obtain ⟨sj1, sj2, sj3, sj4, sj5, sj6⟩ := id hv.sj
  have hi := i11_hi hv
  obtain ⟨h1, h2, -, -, -, -, h7, h8⟩ := id hC.2.2.1
  obtain ⟨k1, k2, k3, k4, -⟩ := h7 c1 List.mem_cons_self
  have ord := STK.ord L c1 _ _ _ hC.2.1
  unfold f_X6_isGoneTo at e
  obtain ⟨-, e⟩ := hf_ite e
  obtain ⟨r1, r2⟩ := y_gone5 hb ⟨by omega, by omega⟩ (by omega) N _ P k3 e
  refine ⟨r1, ?_⟩
  have hb' : bb = 0 ∨ bb = 1 := by
    rcases hb with ⟨-, z⟩ | ⟨-, z⟩
    · exact Or.inl z
    · exact Or.inr z
  rcases r2 with ⟨r2, i, i1, i2, i3⟩ | ⟨r2, r3⟩
  · rw [r2]
    rcases h1 c1 List.mem_cons_self gw bb hb' i ⟨i2, i3, i1⟩ with z | ⟨k, q, hq, -, l, -⟩
    · exact z.symm
    · exfalso
      rcases List.mem_cons.mp hq with e0 | hq
      · rw [e0] at l
        omega
      · have := ord q hq
        omega
  · rw [r2]
    rcases h8.2 c1 List.mem_cons_self gw bb with z | z
    · exact z.symm
    · obtain ⟨i, ⟨i1, i2, -⟩, i3, -⟩ := h2 c1 List.mem_cons_self gw bb hb' z
      exact absurd i2 (r3 i i3 i1)
theorem wid.one {v : Int32} (h : isOne v) : wid v = 1 := by
  rcases h with h | h | h | h | h | h | h <;> rw [h] <;> rfl
/-- what the row on top waits for, behind a statement -/
theorem MOD.rt {S : CS} {s : RS} {c : CEL} (lw : LOW S s c) (tp : tpI s = (ceT c : Int) + (wid (S.o c.2.1 0) : Int) - 1) (h75 : s.i 75 = S.i 36) (h36 : S.i 36 = 0 ∨ S.i 36 = 1) (hm : NMC c S) : MOR c S s := by
  refine ⟨?_, h36⟩
  by_cases one : isOne (S.o c.2.1 0)
  · refine Or.inr (⟨one, lw.2.2.2 (Or.inl one), ?_, h75, hm⟩)
    rw [wid.one one] at tp
    rw [tp]
    omega
  · obtain ⟨z1, z2⟩ := lw.2.2.1 one
    exact Or.inl ⟨one, lw.1, tp, z2, Or.inr ⟨z1, h75⟩, fun q => ⟨(lw.2.1 q).1, lw.2.2.2 (Or.inr q)⟩⟩
end
section
/-! both readers: the base; a row is popped -/
/-- the row at the bottom, as it was when it was pushed -/
def BAZ (B : CS) (b : RS) : List CEL → Prop
  | [] => False
  | [c] => (¬ isGo (B.o c.2.1 0) ∧ ¬ isTy (B.o c.2.1 0)) ∧ ((b.i 43).toInt = (ceG c : Int) ∧ (ceG c = 0 ∨ b.a 44 (ceG c - 1) = 3)) ∧ (b.i 56).toInt = (ceW c : Int) ∧ (B.i 54).toInt ≤ (B.o c.2.1 1).toInt ∧ (0 < (b.i 56).toInt → (b.a 58 ((b.i 56).toInt - 1).toNat).toInt ≤ (b.i 43).toInt) ∧ ((B.i 53).toInt = (c.1 : Int) + 1 ∧ B.r 51 c.1 = some c.2.1 ∧ 2 ≤ (b.i 38).toInt ∧ (B.i 55).toInt ≤ (B.o c.2.1 14).toInt ∧ 0 ≤ (B.i 38).toInt ∧ WPI b) ∧ (((c.1 : Int) = (B.i 56).toInt ∧ B.o c.2.1 0 = 302) ∨ (c.1 = 0 ∧ (B.i 56).toInt = -1 ∧ B.o c.2.1 0 = 300))
  | _ :: c0 :: L => BAZ B b (c0 :: L)
theorem BAZ.all {B : CS} {b : RS} {S : CS} {s : RS} (cb : CBB B S) : ∀ (L : List CEL) (c : CEL) (m e k : Int), BAZ B b (c :: L) → STK S s (c :: L) m e k → (c.1 : Int) < (S.i 53).toInt → BOT b S (c :: L) ∧ BSE S (c :: L) ∧ BO2 B b S (c :: L) ∧ (B.i 53).toInt ≤ (c.1 : Int) + 1 ∧ (S.i 56).toInt ≤ (c.1 : Int)
  | [], c, m, e, k, h, st, l => by
    obtain ⟨⟨h1, h2⟩, h3, h4, h5, h6, ⟨h7, h8, -⟩, h9⟩ := h
    obtain ⟨m', e', k', g1, -, -⟩ := st
    have eo := (cb.2.1 c.1 c.2.1 (by omega) h8).1
    have e56 := cb.2.2.2.2.2.2.2.2.2.2
    have i56 : (S.i 56).toInt = (B.i 56).toInt := by rw [e56]
    refine ⟨⟨by rw [eo]; exact h1, h3⟩, ⟨g1.1, g1.2.1, l, ?_⟩, ⟨by rw [eo]; exact h2, h4, by rw [eo]; exact h5, h6⟩, by omega, ?_⟩
    · rw [eo, i56]
      exact h9
    · rcases h9 with ⟨z, -⟩ | ⟨z1, z2, -⟩ <;> omega
  | c0 :: L, c, m, e, k, h, st, l => by
    obtain ⟨m', e', k', g1, g2, g3⟩ := st
    obtain ⟨l1, -⟩ := g2 c0 rfl
    have n1 := l1.1
    obtain ⟨r1, r2, r3, r4, r5⟩ := BAZ.all cb L c0 m' e' k' h g3 (by omega)
    exact ⟨r1, ⟨g1.1, g1.2.1, l, n1, r2⟩, r3, by omega, by omega⟩
theorem BAZ.lo {B : CS} {b : RS} : ∀ (L : List CEL), BAZ B b L → 2 ≤ (b.i 38).toInt
  | [], h => h.elim
  | [_], h => h.2.2.2.2.2.1.2.2.1
  | _ :: c0 :: L, h => BAZ.lo (c0 :: L) h
theorem BAZ.b38 {B : CS} {b : RS} : ∀ (L : List CEL), BAZ B b L → 0 ≤ (B.i 38).toInt ∧ WPI b
  | [], h => h.elim
  | [_], h => h.2.2.2.2.2.1.2.2.2.2
  | _ :: c0 :: L, h => BAZ.b38 (c0 :: L) h
theorem BAZ.o14 {B : CS} {b : RS} {S : CS} {s : RS} (cb : CBB B S) : ∀ (L : List CEL) (c : CEL) (m e k : Int), BAZ B b (c :: L) → STK S s (c :: L) m e k → (B.i 55).toInt ≤ (S.o c.2.1 14).toInt
  | [], c, m, e, k, h, st => by
    obtain ⟨-, -, -, -, -, ⟨h7, h8, -, h9, -⟩, -⟩ := h
    rw [(cb.2.1 c.1 c.2.1 (by omega) h8).1]
    exact h9
  | c0 :: L, c, m, e, k, h, st => by
    obtain ⟨m', e', k', g1, g2, g3⟩ := st
    obtain ⟨l1, -⟩ := g2 c0 rfl
    have z := BAZ.o14 cb L c0 m' e' k' h g3
    have := l1.2.2.2.2.2.1
    omega
theorem BAZ.b19 {B : CS} {b : RS} {w : Int32} : ∀ (L : List CEL), BAZ B b L → BAZ B (RS.setI b 19 w) L
  | [], h => h
  | [_], h => h
  | _ :: c0 :: L, h => BAZ.b19 (c0 :: L) h
theorem COR.cx {d : Int32} {B : CS} {b : RS} {t0 T : Nat} {L : List CEL} {x : Int} {S P : CS} {s : RS} (hC : COR d B b t0 L x S s) (hin : INL S s T L) (hT : t0 ≤ T) (ev : ENV d P s) (ck : CKX S P) : COR d B b t0 L x P s := hC.mv hin hT ev (FRB.rf _ _) (TBK.rf s).1.r (TBK.rf s).2 ⟨rfl, rfl, rfl, rfl, rfl, rfl, rfl, rfl, rfl⟩ ck.z ⟨ck.1.2.2.1, ck.1.2.2.2.2.1, ck.1.2.2.2.2.2⟩ ck.2.2.2.2.2.2.2.2 ⟨Int.le_refl _, Int.le_refl _, Int.le_refl _, rfl⟩ hC.2.2.2.2.2.2.2.2.1.2.1 (Int.le_refl _)
theorem cost.ge (S : CS) (a : Nat) : 0 ≤ cost S a := by
  unfold cost
  by_cases c1 : S.o a 0 = 300 ∨ S.o a 0 = 301
  · rw [if_pos c1]; exact Int.le_refl _
  rw [if_neg c1]
  by_cases c2 : S.o a 0 = 302
  · rw [if_pos c2]; decide
  rw [if_neg c2]
  by_cases c3 : S.o a 0 = 303 ∧ 97 ≤ (S.ol a).toInt ∧ (S.ol a).toInt ≤ 122
  · rw [if_pos c3]; decide
  · rw [if_neg c3]; decide
/-- the class: the row on top goes -/
theorem RWI.pop {S R : CS} {n : Nat} (h : RWI S) (hn : cnI S = (n : Int) + 1) (er : R.r = S.r) (eo : R.o = S.o) (eol : R.ol = S.ol) (ec : cnI R = (n : Int)) (ehk : R.hs = S.hs ∧ R.L = S.L ∧ R.k = S.k) (hs : SGS S (n + 1) - sgn S (rowA S n) ≤ sgI R) (he : eI S ≤ eI R) : RWI R := by
  obtain ⟨h1, h2, h3, ⟨h4, h5⟩, h6, h7, h8⟩ := h
  have tn : (cnI S).toNat = n + 1 := by omega
  have tr : (cnI R).toNat = n := by omega
  rw [tn] at h5 h6 h7 h8
  have h5' : NR S n := fun i hi => h5 i (by omega)
  have rs : RSQ S R n := fun i _ => ⟨by rw [er], fun a _ => ⟨by rw [eo], by rw [eol]⟩⟩
  have iq : IQ S n := fun m hm => h6 m (by omega)
  obtain ⟨g1, g2, -, -, -⟩ := rs.sums h5'
  have e1 : WCS S (n + 1) = WCS S n + cost S (rowA S n) := rfl
  have e2 : SGS S (n + 1) = SGS S n + sgn S (rowA S n) := rfl
  have c0 := cost.ge S (rowA S n)
  refine ⟨fun i a hi e => ?_, fun i j a hi hj e1 e2 => ?_, by rw [ehk.1, ehk.2.1]; exact h3, ⟨by omega, by rw [tr]; exact fun i hi => by rw [er]; exact h5' i hi⟩, by rw [tr]; exact iq.of rs h5', by rw [tr, g1]; omega, by rw [tr, g2]; omega⟩
  · rw [er] at e
    have := h1 i a hi e
    unfold oK at *
    rw [ehk.2.1, ehk.2.2]
    exact this
  · rw [er] at e1 e2
    exact h2 i j a hi hj e1 e2
theorem e_pop {N n : Nat} {S : CS} {R : Unit × CS} (h : (S.i 53).toInt = (n : Int) + 2) (e : f_X6_pop N S = some R) : R.2 = CS.setI S 53 (S.i 53 - 1) ∧ (S.i 53 - 1).toInt = (n : Int) + 1 := by
  have e1 : (1 : Int32).toInt = 1 := by decide
  have hi := Int32.toInt_lt (S.i 53)
  have em : (S.i 53 - 1).toInt = (n : Int) + 1 := by
    rw [toInt_sub] <;> rw [e1] <;> omega
  unfold f_X6_pop at e
  rw [if_pos (show 0 < S.i 53 - 1 by rw [Int32.lt_iff_toInt_lt, z_t0]; omega)] at e
  rw [← Option.some.inj e]
  exact ⟨rfl, em⟩
/-- behind the end of a row: the row below it is on top -/
def POPD (d : Int32) (B : CS) (b : RS) (t0 : Nat) (c : CEL) (L : List CEL) (R : CS) (u : RS) : Prop := COR d B b t0 (c :: L) (-9) R u ∧ TOP R u c ∧ MOR c R u
/-- names go -/
theorem ENV.less {d : Int32} {S : CS} {s : RS} {w : Int32} (h : ENV d S s) (hw : 2 ≤ w.toInt ∧ w.toInt ≤ (s.i 38).toInt) : ENV d (CS.setI S 50 w) (RS.setI s 38 w) := by
  obtain ⟨⟨h1, h2, h3, h4, h5, h6, h7, h8⟩, ⟨n1, n2, n3, n4⟩, o, c, l, k, ⟨r1, r2, r3, r4, r5, r6, r7, r8, r9, r10, r11⟩⟩ := h
  refine ⟨⟨h1, h2, h3, h4, h5, h6, h7, h8⟩, ⟨rfl, ⟨hw.1, ?_⟩, fun k hk => n3 k ?_, fun j k hj hk => n4 j k hj ?_⟩, o, c, l, k, ⟨r1, r2, r3, r4, r5, r6, r7, r8.mv rfl rfl rfl rfl ⟨rfl, rfl, rfl⟩ r8.2.2.2.2.2.2 (Int.le_refl _), r9, r10, r11⟩⟩
  · show 8 * (w.toInt - 2) ≤ (s.i 11).toInt + 1
    omega
  · have hk' : (k : Int) < w.toInt := hk
    omega
  · have hk' : (k : Int) < w.toInt := hk
    omega
/-- a row goes, in both: X the class's state, V the reference's -/
theorem pop_core {N : Nat} {d : Int32} {B : CS} {b : RS} {t0 : Nat} {L : List CEL} {S X : CS} {s q V : RS} {c1 c : CEL} {v : Int32} (hD : COR d B b t0 (c :: L) (-9) S s) (tp : TOP S s c1) (lk : LNK S c1 c) (lw : LOW S s c) (bz : BAZ B b (c :: L)) (hT : t0 ≤ ceT c1) (t9 : ceT c1 < 1000) (ts : tpI s = (ceT c1 : Int)) (nw0 : nWl (S.o c1.2.1 0) = 0) (na : isGo (S.o c1.2.1 0) → ¬ s.a 44 (ceG c1) = 3) (hv : v = 0 ∨ v = 1) (ho : f_X12_over N q v = some V) (hq : (∀ k : Nat, k ≠ 38 → k ≠ 43 → k ≠ 52 → q.i k = s.i k) ∧ q.l = s.l ∧ q.a = s.a ∧ q.b = s.b) (q38 : q.i 38 = S.o c1.2.1 3) (q43 : (q.i 43).toInt = (s.i 43).toInt - (nGo (S.o c1.2.1 0) : Int)) (o3 : (b.i 38).toInt ≤ (S.o c1.2.1 3).toInt ∧ (S.o c1.2.1 3).toInt ≤ (S.i 50).toInt) (o3y : ∀ y ∈ c :: L, (S.o y.2.1 3).toInt ≤ (S.o c1.2.1 3).toInt) (Xi0 : ∀ k : Nat, k ≠ 36 → k ≠ 50 → k ≠ 53 → X.i k = S.i k) (X50 : X.i 50 = S.o c1.2.1 3) (X53 : (X.i 53).toInt = (c.1 : Int) + 1) (X36 : X.i 36 = v) (Xr : X.r = S.r ∧ X.o = S.o ∧ X.ol = S.ol ∧ X.a = S.a ∧ X.b = S.b ∧ X.l = S.l ∧ (X.hs = S.hs ∧ X.L = S.L ∧ X.k = S.k)) : POPD d B b t0 c L X V ∧ (∀ y ∈ c :: L, X.o y.2.1 = S.o y.2.1) := by
  obtain ⟨n1, n2, n3, n4', -, -, -, n8, -⟩ := id lk
  have hvS := hD.1
  have cb := hD.2.2.2.2.1
  have t1 := tp.1
  obtain ⟨r1, r2, r3, r4, r5⟩ := BAZ.all cb L c _ _ _ bz hD.2.1 (by omega)
  have lo := BAZ.lo _ bz
  have hin := STK.inl L c _ _ _ hD.2.1 (by omega) (by have := tp.2.1; omega) (by have := tp.2.2; omega)
  rw [← n2] at hin
  have s50 := hvS.2.1.1
  have o38 : (S.o c1.2.1 3).toInt ≤ (s.i 38).toInt := by
    rw [← s50]
    exact o3.2
  obtain ⟨x1, x2, x3, x4, x5, x6, x7⟩ := Xr
  -- the reference
  obtain ⟨y1, y2, y3, y4⟩ := hq
  have y1 : ∀ k : Nat, k ≠ 38 → k ≠ 43 → k ≠ 52 → q.i k = s.i k := y1
  have phq : phI q = phI s := by
    unfold phI
    rw [y1 17 (by decide) (by decide) (by decide), y1 20 (by decide) (by decide) (by decide)]
  have hvL := hvS.less (w := S.o c1.2.1 3) ⟨by omega, o38⟩
  have jq : ∀ k : Nat, k ≠ 43 → k ≠ 52 → q.i k = (RS.setI s 38 (S.o c1.2.1 3)).i k := fun k hk hk2 => by
    by_cases z : k = 38
    · rw [z, q38]
      rfl
    · rw [y1 k z hk hk2]
      exact (if_neg z).symm
  have evq : ENV d (CS.setI S 50 (S.o c1.2.1 3)) q := by
    refine hvL.kq (jq 38 (by decide) (by decide)) (jq 2 (by decide) (by decide)) (jq 3 (by decide) (by decide)) (jq 18 (by decide) (by decide)) (jq 53 (by decide) (by decide)) (jq 54 (by decide) (by decide)) (jq 55 (by decide) (by decide)) (by rw [y3]; rfl) (by rw [y3]; rfl) (by rw [y3]; rfl) (by rw [y4]; rfl) (by rw [y4]; rfl) (jq 10 (by decide) (by decide)) (jq 11 (by decide) (by decide)) (jq 12 (by decide) (by decide)) (jq 14 (by decide) (by decide)) (jq 15 (by decide) (by decide)) (jq 17 (by decide) (by decide)) (jq 19 (by decide) (by decide)) y2 ?_ ?_
    · rw [phq, y1 20 (by decide) (by decide) (by decide)]
      exact ⟨hvS.2.2.2.2.2.2.1, hvS.2.2.2.2.2.2.2.1⟩
    · have w := hvS.wp
      have tg := tp.2.1
      refine ⟨⟨by rw [q43]; omega, by rw [y1 56 (by decide) (by decide) (by decide)]; exact w.1.2.1, fun z => ?_, by rw [y1 29 (by decide) (by decide) (by decide)]; exact w.1.2.2.2⟩, fun j hj => ?_⟩
      · rw [y1 56 (by decide) (by decide) (by decide)] at z ⊢
        rw [y3, q43]
        have t56 := tp.2.2
        obtain ⟨gl1, gl2⟩ := STK.gl L c _ _ _ hD.2.1 r1
        rcases WLT L c _ _ _ hD.2.1 r3 with ⟨w', hw', w1, w2, -⟩ | ⟨-, w2, w3⟩
        · obtain ⟨⟨-, z2⟩, -⟩ := hD.2.1.ty w' hw' w1
          have g3 := gl2 w' hw'
          have en : ((s.i 56).toInt - 1).toNat = ceW w' := by omega
          rw [en, z2]
          omega
        · have e56 : (s.i 56).toInt = (b.i 56).toInt := by omega
          have y := (hD.2.2.2.2.2.1.2.1.2.2.2.2.2.1 ((b.i 56).toInt - 1).toNat (by omega)).2
          have z3 := w3 (by omega)
          rw [e56, y]
          omega
      · rw [y1 59 (by decide) (by decide) (by decide)] at hj
        rw [y3, y1 29 (by decide) (by decide) (by decide)]
        exact w.2 j hj
  have tq : tpI q = (ceT c1 : Int) := by
    show (q.i 63).toInt = _
    rw [y1 63 (by decide) (by decide) (by decide)]
    exact ts
  obtain ⟨v1, v2, -, -, v5, -, v7, v8, v9, v10⟩ := y_over evq tq t9 ho
  have eV : V = RS.setI (RS.setI q 75 v) 63 (q.i 63 - 1) := by
    unfold f_X12_over at ho
    obtain ⟨-, ho⟩ := hf_ite ho
    exact (Option.some.inj ho).symm
  have Va : V.a = s.a := by rw [eV]; exact y3
  have Vb : V.b = s.b := by rw [eV]; exact y4
  have Vi : ∀ k : Nat, k ≠ 38 → k ≠ 43 → k ≠ 52 → k ≠ 63 → k ≠ 75 → V.i k = s.i k := fun k h0 h1 h4 h2 h3 => by
    rw [eV]
    have z : (RS.setI (RS.setI q 75 v) 63 (q.i 63 - 1)).i k = q.i k := (if_neg h2).trans (if_neg h3)
    rw [z, y1 k h0 h1 h4]
  have V38 : V.i 38 = S.o c1.2.1 3 := by
    rw [eV]
    exact q38
  have V43 : V.i 43 = q.i 43 := by
    rw [eV]
    rfl
  clear eV
  have phV : phI V = phI s := v7.trans phq
  have tg := tp.2.1
  have tw := tp.2.2
  have evX : ENV d X V := by
    refine v1.gx (fun j _ h36 _ h53 _ _ _ => ?_) ⟨by rw [x4]; rfl, by rw [x4]; rfl, by rw [x4]; rfl⟩ x5 x6 ?_ ?_ ?_
    · by_cases z : j = 50
      · rw [z, X50, ci_at]
      · rw [Xi0 j h36 z h53, ci_ne _ _ _ z]
    · have w := hvS.ri
      refine w.pop (n := c1.1) (by show (S.i 53).toInt = _; omega) x1 x2 x3 (by show (X.i 53).toInt = _; omega) x7 ?_ ?_
      · have w8 := w.2.2.2.2.2.2
        have tn : (cnI S).toNat = c1.1 + 1 := by
          have : cnI S = (S.i 53).toInt := rfl
          omega
        rw [tn] at w8
        have z : sgI X = sgI S := by
          unfold sgI
          rw [Xi0 34 (by decide) (by decide) (by decide)]
        have s0 : 0 ≤ sgn S (rowA S c1.1) := by
          unfold sgn
          by_cases k1 : S.o (rowA S c1.1) 0 = 302
          · rw [if_pos k1]; decide
          · rw [if_neg k1]
            by_cases k2 : S.o (rowA S c1.1) 0 = 301 ∨ S.o (rowA S c1.1) 0 = 212 ∨ S.o (rowA S c1.1) 0 = 218 ∨ S.o (rowA S c1.1) 0 = 213 ∨ S.o (rowA S c1.1) 0 = 215 ∨ S.o (rowA S c1.1) 0 = 216
            · rw [if_pos k2]; decide
            · rw [if_neg k2]; exact Int.le_refl _
        omega
      · unfold eI plI
        rw [Xi0 43 (by decide) (by decide) (by decide), Xi0 44 (by decide) (by decide) (by decide)]
        exact Int.le_refl _
    · have z := v1.sj
      have c54 : (CS.setI S 50 (S.o c1.2.1 3)).i 54 = S.i 54 ∧ (CS.setI S 50 (S.o c1.2.1 3)).i 55 = S.i 55 ∧ (CS.setI S 50 (S.o c1.2.1 3)).i 38 = S.i 38 := ⟨rfl, rfl, rfl⟩
      unfold SJB at *
      rw [c54.1, c54.2.1, c54.2.2] at z
      rw [Xi0 54 (by decide) (by decide) (by decide), Xi0 55 (by decide) (by decide) (by decide), Xi0 38 (by decide) (by decide) (by decide)]
      exact z
    · rw [Xi0 21 (by decide) (by decide) (by decide)]
      exact v1.t21
  have ck : CKZ S X := ⟨Xi0 22 (by decide) (by decide) (by decide), fun _ _ => by rw [x1], fun _ _ _ _ => by rw [x2, x3]; exact ⟨rfl, rfl⟩, fun _ _ => by rw [x4], by rw [Xi0 54 (by decide) (by decide) (by decide)]; exact Int.le_refl _, by rw [Xi0 55 (by decide) (by decide) (by decide)]; exact Int.le_refl _, fun _ _ => by rw [x4], fun k h1 h2 => by rw [Xi0 55 (by decide) (by decide) (by decide)] at h2; omega⟩
  have fr : FRB (ceT c1) s V := fun j _ => by
    rw [Va, Vb]
    exact ⟨rfl, rfl, rfl, rfl, rfl, rfl, rfl, rfl, rfl, rfl, rfl⟩
  have tb : TBR s V := by
    unfold TBR
    rw [Va, Vb, Vi 59 (by decide) (by decide) (by decide) (by decide) (by decide), Vi 29 (by decide) (by decide) (by decide) (by decide) (by decide), Vi 33 (by decide) (by decide) (by decide) (by decide) (by decide), Vi 24 (by decide) (by decide) (by decide) (by decide) (by decide)]
    exact ⟨fun _ _ => ⟨rfl, rfl, rfl⟩, fun _ _ => ⟨rfl, rfl, rfl, rfl, rfl, rfl, rfl, rfl⟩, fun _ _ => ⟨rfl, rfl⟩, ⟨Int.le_refl _, fun j k1 k2 => by omega⟩, fun _ _ => ⟨rfl, rfl, rfl⟩, Int.le_refl _, fun _ _ => rfl, Int.le_refl _, fun _ _ => ⟨rfl, rfl⟩, Int.le_refl _, fun _ _ => ⟨rfl, rfl, rfl⟩⟩
  have tbb := hD.2.2.2.2.2.1.2.1
  have gl := STK.gl L c _ _ _ hD.2.1 r1
  have iar : IAR X V := by
    obtain ⟨⟨z1, z2⟩, z3⟩ := hD.2.2.2.2.2.2.2.2.2.1
    unfold IAR
    rw [Xi0 56 (by decide) (by decide) (by decide), Va, x1, V43, q43]
    refine ⟨⟨fun z => ?_, fun z => ?_⟩, fun z => ?_⟩
    · obtain ⟨g, g1, g2⟩ := z1 z
      refine ⟨g, ?_, g2⟩
      by_cases gg : isGo (S.o c1.2.1 0)
      · have ng := nGo1 gg
        have : ¬ g = ceG c1 := fun q => na gg (by rw [← q]; exact g2)
        omega
      · have ng := nGo.eq gg
        omega
    · obtain ⟨g, g1, g2⟩ := z
      exact z2 ⟨g, by omega, g2⟩
    · obtain ⟨k1, k2, k3⟩ := z3 z
      exact ⟨by omega, k2, k3⟩
  have cV := hD.mv2 hin hT evX fr tb ⟨by rw [Vi 20 (by decide) (by decide) (by decide) (by decide) (by decide)]; exact Int.le_refl _, fun j _ => by rw [Va]⟩ ⟨Vi 2 (by decide) (by decide) (by decide) (by decide) (by decide), Vi 3 (by decide) (by decide) (by decide) (by decide) (by decide), Vi 8 (by decide) (by decide) (by decide) (by decide) (by decide), by rw [Va], by rw [Va], by rw [Vb]⟩ ck (Xi0 38 (by decide) (by decide) (by decide)) (Xi0 56 (by decide) (by decide) (by decide)) (fun y hy => by rw [X50]; exact o3y y hy) (by omega) (by rw [V38]; exact o3.1) (by rw [V43, q43]; have := gl.1; omega) (by rw [Vi 56 (by decide) (by decide) (by decide) (by decide) (by decide)]; exact tbb.2.2.1) iar (by
    unfold RTE
    rw [Xi0 21 (by decide) (by decide) (by decide), Xi0 54 (by decide) (by decide) (by decide), Xi0 55 (by decide) (by decide) (by decide), Xi0 44 (by decide) (by decide) (by decide)]
    exact ⟨Int.le_refl _, Int.le_refl _, Int.le_refl _⟩) ⟨by rw [Vi 11 (by decide) (by decide) (by decide) (by decide) (by decide)]; exact Int.le_refl _, by rw [phV]; exact hD.2.2.2.2.2.2.1.2.1, by rw [Vi 17 (by decide) (by decide) (by decide) (by decide) (by decide)]; exact Int.le_refl _, by rw [Vi 19 (by decide) (by decide) (by decide) (by decide) (by decide)]⟩ (by rw [V38, Vi 11 (by decide) (by decide) (by decide) (by decide) (by decide)]; have := hD.2.2.2.2.2.2.2.2.1.2.1; omega)
  have eo : ∀ y ∈ c :: L, X.o y.2.1 = S.o y.2.1 := fun y _ => by rw [x2]
  have lwV : LOW X V c := lw.mv (eo c List.mem_cons_self) fr (by omega)
  refine ⟨⟨cV, ⟨X53, ?_, ?_⟩, MOD.rt lwV ?_ (v5.trans X36.symm) (by rw [X36]; exact hv) (fun z1 z2 z3 => ?_)⟩, eo⟩
  · rw [V43, q43, eo c List.mem_cons_self]
    omega
  · rw [Vi 56 (by decide) (by decide) (by decide) (by decide) (by decide), eo c List.mem_cons_self]
    omega
  · rw [v2, eo c List.mem_cons_self]
    omega
  · rw [x2] at z1 z2 z3 ⊢
    rw [X50]
    exact n8 z1 z2 z3
/-- a row with one body goes: its names are those that stand -/
theorem pop_one {N : Nat} {E1 : CS → Option (Unit × CS)} {E2 : CS → Option (Int32 × CS)} {d : Int32} {B : CS} {b : RS} {t0 : Nat} {L : List CEL} {S : CS} {s q V : RS} {c1 c : CEL} {v : Int32} {R : Unit × CS} (hD : COR d B b t0 (c :: L) (-9) S s) (tp : TOP S s c1) (lk : LNK S c1 c) (lw : LOW S s c) (bz : BAZ B b (c :: L)) (hT : t0 ≤ ceT c1) (t9 : ceT c1 < 1000) (ts : tpI s = (ceT c1 : Int)) (hm : NMC c1 S) (one : isOne (S.o c1.2.1 0)) (n7 : ¬ S.o c1.2.1 0 = 207) (n4 : ¬ S.o c1.2.1 0 = 304) (na : isGo (S.o c1.2.1 0) → ¬ s.a 44 (ceG c1) = 3) (hv : v = 0 ∨ v = 1) (ho : f_X12_over N q v = some V) (hq : (∀ k : Nat, k ≠ 43 → q.i k = s.i k) ∧ q.l = s.l ∧ q.a = s.a ∧ q.b = s.b) (q43 : (q.i 43).toInt = (s.i 43).toInt - (nGo (S.o c1.2.1 0) : Int)) (e : f_X7_endBody_193 N E1 E2 (CS.setI S 36 v) c1.2.1 = some R) : POPD d B b t0 c L R.2 V ∧ (∀ y ∈ c :: L, R.2.o y.2.1 = S.o y.2.1) := by
  obtain ⟨n1, n2, n3, n4', -, -, -, n8, -⟩ := id lk
  have hvS := hD.1
  have nw0 : nWl (S.o c1.2.1 0) = 0 := by
    rcases one with h | h | h | h | h | h | h <;> rw [h] <;> rfl
  have cb := hD.2.2.2.2.1
  have t1 := tp.1
  obtain ⟨r1, r2, r3, r4, r5⟩ := BAZ.all cb L c _ _ _ bz hD.2.1 (by omega)
  have hin := STK.inl L c _ _ _ hD.2.1 (by omega) (by have := tp.2.1; omega) (by have := tp.2.2; omega)
  rw [← n2] at hin
  -- the class
  unfold f_X7_endBody_193 at e
  obtain ⟨-, e⟩ := hf_ite e
  obtain ⟨p14, e14z, e⟩ := hf_bind e
  have e14 : f_X6_pop N (CS.setI (CS.setI S 36 v) 50 (S.o c1.2.1 3)) = some p14 := e14z
  clear e14z
  have i53 : (CS.setI (CS.setI S 36 v) 50 (S.o c1.2.1 3)).i 53 = S.i 53 := by
    rw [ci_ne _ _ _ (by decide), ci_ne _ _ _ (by decide)]
  obtain ⟨p1, p2⟩ := e_pop (n := c.1) (by rw [i53]; omega) e14
  have eR : R.2 = CS.setI (CS.setI (CS.setI S 36 v) 50 (S.o c1.2.1 3)) 53 (S.i 53 - 1) := by
    rw [← Option.some.inj e, ← i53]
    exact p1
  rw [i53] at p2
  have c50 : S.i 50 = S.o c1.2.1 3 := hm one n7 n4
  obtain ⟨X, hX⟩ : ∃ X, X = R.2 := ⟨_, rfl⟩
  have Xi : ∀ k : Nat, k ≠ 36 → k ≠ 53 → X.i k = S.i k := fun k h1 h2 => by
    rw [hX, eR, ci_ne _ _ _ h2]
    by_cases z : k = 50
    · rw [z, ci_at, c50]
    · rw [ci_ne _ _ _ z, ci_ne _ _ _ h1]
  have X53 : (X.i 53).toInt = (c.1 : Int) + 1 := by
    rw [hX, eR, ci_at]
    exact p2
  have X36 : X.i 36 = v := by
    rw [hX, eR, ci_ne _ _ _ (by decide), ci_ne _ _ _ (by decide), ci_at]
  have Xr : X.r = S.r ∧ X.o = S.o ∧ X.ol = S.ol ∧ X.a = S.a ∧ X.b = S.b ∧ X.l = S.l ∧ (X.hs = S.hs ∧ X.L = S.L ∧ X.k = S.k) := by
    rw [hX, eR]
    exact ⟨rfl, rfl, rfl, rfl, rfl, rfl, rfl, rfl, rfl⟩
  rw [← hX]
  clear hX eR e e14 p1
  have s50 := hvS.2.1.1
  have tbb := hD.2.2.2.2.2.1.2.1
  exact pop_core hD tp lk lw bz hT t9 ts nw0 na hv ho ⟨fun k _ h _ => hq.1 k h, hq.2⟩ (by rw [hq.1 38 (by decide), ← s50]; exact c50) q43 ⟨by rw [← c50, s50]; exact tbb.1, by rw [c50]; exact Int.le_refl _⟩ (fun y hy => by rw [← c50]; exact (hD.2.2.2.2.2.2.2.1.2.1 y hy).2) (fun k h1 _ h3 => Xi k h1 h3) ((Xi 50 (by decide) (by decide)).trans c50) X53 X36 Xr
end
section
/-! both readers: chains are aimed, exactly; a row closes with its code -/
theorem pt_l {N : Nat} {P : Nat → Prop} {s : RS} (dec : ∀ k : Nat, P k → (s.a 22 k).toInt < 0 ∨ ∃ j : Nat, (s.a 22 k).toInt = (j : Int) ∧ j < k ∧ P j) : ∀ (n : Nat) (σ V : RS) (x2 x3 : Int32), (∀ j : Nat, P j → (j : Int) ≤ x3.toInt → σ.a 22 j = s.a 22 j) → (x3.toInt < 0 ∨ ∃ j : Nat, x3.toInt = (j : Int) ∧ P j) → f_X12_patch_2 N n σ x2 x3 = some V → ∃ l : List Nat, lks s x3 l ∧ (∀ j ∈ l, P j ∧ (j : Int) ≤ x3.toInt) ∧ (V.i = σ.i ∧ V.l = σ.l ∧ V.b = σ.b ∧ ∀ k : Nat, k ≠ 22 → V.a k = σ.a k) ∧ (∀ j ∈ l, V.a 22 j = x2) ∧ ∀ j : Nat, ¬ j ∈ l → V.a 22 j = σ.a 22 j := by
  intro n
  induction n with
  | zero =>
    intro σ V x2 x3 _ _ e
    cases e
  | succ n ih =>
    intro σ V x2 x3 ag hx e
    have e' : b_X12_patch_2 N (f_X12_patch_2 N n) σ x2 x3 = some V := e
    unfold b_X12_patch_2 at e'
    rcases hx with hx | ⟨j0, hj, pj⟩
    · rw [if_pos (by rw [Int32.lt_iff_toInt_lt, z_t0]; exact hx)] at e'
      cases e'
      exact ⟨[], hx, fun j h => absurd h List.not_mem_nil, ⟨rfl, rfl, rfl, fun _ _ => rfl⟩, fun j h => absurd h List.not_mem_nil, fun _ _ => rfl⟩
    · rw [if_neg (fun z => by rw [Int32.lt_iff_toInt_lt, z_t0] at z; omega)] at e'
      obtain ⟨-, e'⟩ := hf_ite e'
      have en : x3.toNatClampNeg = j0 := by
        show x3.toInt.toNat = j0
        omega
      rw [en] at e'
      have e2 : σ.a 22 j0 = s.a 22 j0 := ag j0 pj (by omega)
      rw [e2] at e'
      obtain ⟨τ, hτ⟩ : ∃ y, y = RS.setA σ 22 j0 x2 := ⟨_, rfl⟩
      have ti : τ.i = σ.i := by rw [hτ]; rfl
      have tl : τ.l = σ.l := by rw [hτ]; rfl
      have tb : τ.b = σ.b := by rw [hτ]; rfl
      have ta : ∀ k : Nat, k ≠ 22 → τ.a k = σ.a k := by rw [hτ]; exact fun k hk => setA_nk hk
      have t0 : τ.a 22 j0 = x2 := by rw [hτ]; exact setA_at
      have tn : ∀ j : Nat, ¬ j = j0 → τ.a 22 j = σ.a 22 j := by rw [hτ]; exact fun j hj => setA_ne hj
      rw [← hτ] at e'
      clear hτ
      have dl : (s.a 22 j0).toInt < (j0 : Int) := by
        rcases dec j0 pj with z | ⟨j, z1, z2, -⟩ <;> omega
      obtain ⟨l, l1, l2, ⟨l3, l4, l5, l6⟩, l7, l8⟩ := ih τ V x2 (s.a 22 j0) (fun j pj' hj' => by rw [tn j (by omega)]; exact ag j pj' (by omega)) (by
        rcases dec j0 pj with z | ⟨j, z1, -, z3⟩
        · exact Or.inl z
        · exact Or.inr ⟨j, z1, z3⟩) e'
      have nl : ¬ j0 ∈ l := fun z => by
        have := (l2 j0 z).2
        omega
      refine ⟨j0 :: l, ⟨hj, l1⟩, fun j h => ?_, ⟨l3.trans ti, l4.trans tl, l5.trans tb, fun k hk => (l6 k hk).trans (ta k hk)⟩, fun j h => ?_, fun j h => ?_⟩
      · rcases List.mem_cons.mp h with z | z
        · rw [z]
          exact ⟨pj, by omega⟩
        · have := l2 j z
          exact ⟨this.1, by omega⟩
      · rcases List.mem_cons.mp h with z | z
        · rw [z, l8 j0 nl]
          exact t0
        · exact l7 j z
      · rw [l8 j (fun z => h (List.mem_cons_of_mem _ z))]
        exact tn j (fun z => h (by rw [z]; exact List.mem_cons_self))
/-- a chain of a colour is aimed -/
theorem pt_ex {N : Nat} {S : CS} {L : List CEL} {col : Nat → Option (Nat × Bool)} {b20 : Int} {κ : Nat × Bool} {s V : RS} {x1 x2 : Int32} (hc : COL S s L col b20) (hx : x1.toInt < 0 ∨ ∃ j : Nat, x1.toInt = (j : Int) ∧ col j = some κ) (e : f_X12_patch N s x1 x2 = some V) : ∃ l : List Nat, lks s x1 l ∧ (∀ j ∈ l, col j = some κ) ∧ (V.i = s.i ∧ V.l = s.l ∧ V.b = s.b ∧ ∀ k : Nat, k ≠ 22 → V.a k = s.a k) ∧ (∀ j ∈ l, V.a 22 j = x2) ∧ ∀ j : Nat, ¬ j ∈ l → V.a 22 j = s.a 22 j := by
  obtain ⟨l, l1, l2, l3, l4, l5⟩ := pt_l (P := fun k => col k = some κ) (fun k hk => hc.2.1 k κ hk) N s V x2 x1 (fun _ _ _ => rfl) hx e
  exact ⟨l, l1, fun j hj => (l2 j hj).1, l3, l4, l5⟩
theorem COR.gis {d : Int32} {B : CS} {b : RS} {t0 : Nat} {L : List CEL} {x : Int} {S : CS} {s : RS} {c1 : CEL} (hC : COR d B b t0 (c1 :: L) x S s) : ∀ q ∈ vws S s L, isGo q.v → q.2.2.2 < ceG c1 := fun q hq gq => by
  obtain ⟨y, hy, e⟩ := List.mem_map.mp hq
  rw [← e] at gq ⊢
  have o := ((STK.inj (c1 :: L) _ _ _ hC.2.1).2 y (List.mem_cons_of_mem _ hy) c1 List.mem_cons_self (STK.ord L c1 _ _ _ hC.2.1 y hy)).2.1
  have n1 := nGo1 (show isGo (S.o y.2.1 0) from gq)
  show ceG y < ceG c1
  omega
/-- jumps to the rows below, when a row goes -/
theorem GKV.of {V : List RVW} {s u : RS} (g : ∀ q ∈ V, isGo q.v → ((q.2.2.2 : Nat) : Int) < (u.i 43).toInt) (e : ∀ k : Nat, 47 ≤ k → k ≤ 62 → u.a k = s.a k) (i59 : u.i 59 = s.i 59) : GKV V s u := ⟨fun q hq gq => by
  rw [e 50 (by decide) (by decide), e 51 (by decide) (by decide), e 48 (by decide) (by decide), e 49 (by decide) (by decide), e 47 (by decide) (by decide)]
  exact ⟨g q hq gq, rfl, rfl, rfl, rfl, rfl⟩, by rw [i59]; exact Int.le_refl _, fun j _ => by
  rw [e 60 (by decide) (by decide), e 61 (by decide) (by decide), e 62 (by decide) (by decide)]
  exact ⟨rfl, rfl, rfl⟩⟩
theorem GKV.o2 {V : List RVW} {s u : RS} (g : ∀ q ∈ V, isGo q.v → ((q.2.2.2 : Nat) : Int) < (u.i 43).toInt) (e : u.a 47 = s.a 47 ∧ u.a 48 = s.a 48 ∧ u.a 49 = s.a 49 ∧ u.a 50 = s.a 50 ∧ u.a 51 = s.a 51 ∧ u.a 60 = s.a 60 ∧ u.a 61 = s.a 61 ∧ u.a 62 = s.a 62) (i59 : u.i 59 = s.i 59) : GKV V s u := ⟨fun q hq gq => by
  rw [e.2.2.2.1, e.2.2.2.2.1, e.2.1, e.2.2.1, e.1]
  exact ⟨g q hq gq, rfl, rfl, rfl, rfl, rfl⟩, by rw [i59]; exact Int.le_refl _, fun j _ => by
  rw [e.2.2.2.2.2.1, e.2.2.2.2.2.2.1, e.2.2.2.2.2.2.2]
  exact ⟨rfl, rfl, rfl⟩⟩
theorem noc.gl {FC : Nat → Prop} {SF : CS} {U : RS} {nm : Nat → Nat → Prop} {X : Als} {G : GHT} {ω : Nat} {r : RVW} {j : JCT} : JGL FC SF U nm X G noc noy ω r j := fun _ _ => ⟨fun e => by (cases e), fun e => by (cases e)⟩
theorem tvs.one {x : Int32} : tvs [x] = [tv x] := rfl
/-- names at the end of a row that has no entry -/
theorem clo_nm {r : RVW} {S : CS} {s u : RS} (n1 : ¬ r.v = 212) (n2 : ¬ isTy r.v) (n3 : ¬ r.v = 304) (i : u.i = s.i) (a40 : u.a 40 = s.a 40) : ∀ (nm : Nat → Nat → Prop) (G : GHT) (ω : Nat) (j : JCT), NMG nm (jen G ω r j.h j.l ++ j.c) S s → HC0 nm j.h (jen G ω r j.h j.l ++ j.c) → NMH nm j.c S u ∧ HC0 nm j.h j.c := fun nm G ω j ng hc => by
  rw [jen.no n1 n2 n3] at ng hc
  refine ⟨?_, hc⟩
  have z := ng.h
  unfold NMH NCB SLO at z ⊢
  rw [i, a40]
  exact z
theorem e193x {N n a : Nat} {E1 : CS → Option (Unit × CS)} {E2 : CS → Option (Int32 × CS)} {S : CS} {v : Int32} {R : Unit × CS} (h53 : (S.i 53).toInt = (n : Int) + 2) (e : f_X7_endBody_193 N E1 E2 (CS.setI S 36 v) a = some R) : (∀ k : Nat, k ≠ 36 → k ≠ 50 → k ≠ 53 → R.2.i k = S.i k) ∧ R.2.i 50 = S.o a 3 ∧ (R.2.i 53).toInt = (n : Int) + 1 ∧ R.2.i 36 = v ∧ (R.2.r = S.r ∧ R.2.o = S.o ∧ R.2.ol = S.ol ∧ R.2.a = S.a ∧ R.2.b = S.b ∧ R.2.l = S.l ∧ (R.2.hs = S.hs ∧ R.2.L = S.L ∧ R.2.k = S.k)) := by
  unfold f_X7_endBody_193 at e
  obtain ⟨-, e⟩ := hf_ite e
  obtain ⟨p14, e14z, e⟩ := hf_bind e
  have e14 : f_X6_pop N (CS.setI (CS.setI S 36 v) 50 (S.o a 3)) = some p14 := e14z
  have i53 : (CS.setI (CS.setI S 36 v) 50 (S.o a 3)).i 53 = S.i 53 := by
    rw [ci_ne _ _ _ (by decide), ci_ne _ _ _ (by decide)]
  obtain ⟨p1, p2⟩ := e_pop (n := n) (by rw [i53]; omega) e14
  have eR : R.2 = CS.setI (CS.setI (CS.setI S 36 v) 50 (S.o a 3)) 53 (S.i 53 - 1) := by
    rw [← Option.some.inj e, ← i53]
    exact p1
  rw [i53] at p2
  rw [eR]
  refine ⟨fun k h1 h2 h3 => ?_, ?_, ?_, ?_, ⟨rfl, rfl, rfl, rfl, rfl, rfl, rfl, rfl, rfl⟩⟩
  · rw [ci_ne _ _ _ h3, ci_ne _ _ _ h2, ci_ne _ _ _ h1]
  · rw [ci_ne _ _ _ (by decide), ci_at]
  · rw [ci_at]
    exact p2
  · rw [ci_ne _ _ _ (by decide), ci_ne _ _ _ (by decide), ci_at]
section
variable {A : JBA} {U : RS} {B : CS} {b : RS} {V0 : List RVW} {s0 : RS} {K : JKT} {a e : Int} {P : CS} {q : RS}
/-- a row goes, in both: the states alone -/
theorem JRG.popv {V : RS} {v : Int32} {R : CS} (h : JRG A U B b V0 s0 [] K a e P q) (la : a ≤ 0) (le : e ≤ 0 ∨ (e ≤ 1 ∧ ¬ ALN (R.i 43))) (kp : pe R = pe P) (r21 : R.i 21 = P.i 21) (r44 : R.i 44 = P.i 44) (r36 : R.i 36 = v) (r48 : R.a 48 = P.a 48) (r49 : R.a 49 = P.a 49) (qV : qe V = qe q) (V38 : (V.i 38).toInt ≤ (q.i 38).toInt) (a40 : V.a 40 = q.a 40) (gk : ∀ y ∈ V0, isGo y.v → ((y.2.2.2 : Nat) : Int) < (V.i 43).toInt) (ek : (V.a 47 = s0.a 47 ∧ V.a 48 = s0.a 48 ∧ V.a 49 = s0.a 49 ∧ V.a 50 = s0.a 50 ∧ V.a 51 = s0.a 51 ∧ V.a 60 = s0.a 60 ∧ V.a 61 = s0.a 61 ∧ V.a 62 = s0.a 62)) (i59 : V.i 59 = s0.i 59) (l11 : (s0.i 11).toInt ≤ (V.i 11).toInt) (l19 : (s0.i 19).toInt ≤ (V.i 19).toInt) (hK : ∀ (FC : Nat → Prop) (SF : CS) (nm : Nat → Nat → Prop) (X : Als) (ω : Nat) (j : JCT) (Z : Prop), 1300 ≤ ω → pcC P ≤ 1200 → HC0 nm j.h j.c → K FC SF nm X ω j Z → (v = 1 → GU2 FC SF U nm X (pcC P) (pcR q) j.h (ω + j.l - pcC P) j.c) → Z) : JRW A U B b V0 R V := by
  have j2 := h.drp (R := R) (u := V) kp r21 r44 r48 r49 qV V38 a40
  have pcp : pcC R = pcC P := pcC.pe kp
  have prp : pcR V = pcR q := pcR.qe qV
  refine j2.fiw la le (fun _ => GKV.o2 gk ek i59) l11 l19 (fun FC SF nm X G h0 c0 ω Z hω r12 hA ng hcc k cur => ?_)
  rw [pcp, prp] at cur
  rw [pcp] at r12
  exact hK FC SF nm X ω _ Z hω r12 hcc k (fun z => cur (by rw [r36]; exact z))
/-- a row goes, in both -/
theorem JRG.popx {N : Nat} {q' V : RS} {v : Int32} {R : CS} (h : JRG A U B b V0 s0 [] K a e P q) (la : a ≤ 0) (le : e ≤ 0 ∨ (e ≤ 1 ∧ ¬ ALN (P.i 43))) (r1 : ∀ k : Nat, k ≠ 36 → k ≠ 50 → k ≠ 53 → R.i k = P.i k) (r4 : R.i 36 = v) (r6 : R.o = P.o) (r8 : R.a = P.a) (hq : (∀ k : Nat, k ≠ 38 → k ≠ 43 → q'.i k = q.i k) ∧ q'.a = q.a) (h38 : (q'.i 38).toInt ≤ (q.i 38).toInt) (ho : f_X12_over N q' v = some V) (gk : ∀ y ∈ V0, isGo y.v → ((y.2.2.2 : Nat) : Int) < (q'.i 43).toInt) (ek : ∀ k : Nat, 47 ≤ k → k ≤ 62 → q.a k = s0.a k) (i59 : q.i 59 = s0.i 59) (l11 : (s0.i 11).toInt ≤ (q.i 11).toInt) (l19 : (s0.i 19).toInt ≤ (q.i 19).toInt) (hK : ∀ (FC : Nat → Prop) (SF : CS) (nm : Nat → Nat → Prop) (X : Als) (ω : Nat) (j : JCT) (Z : Prop), 1300 ≤ ω → pcC P ≤ 1200 → HC0 nm j.h j.c → K FC SF nm X ω j Z → (v = 1 → GU2 FC SF U nm X (pcC P) (pcR q) j.h (ω + j.l - pcC P) j.c) → Z) : JRW A U B b V0 R V ∧ R.o = P.o ∧ V.a = q.a := by
  have eV : V = RS.setI (RS.setI q' 75 v) 63 (q'.i 63 - 1) := by
    unfold f_X12_over at ho
    obtain ⟨-, ho⟩ := hf_ite ho
    exact (Option.some.inj ho).symm
  have Va : V.a = q.a := by rw [eV]; exact hq.2
  have Vi : ∀ k : Nat, k ≠ 38 → k ≠ 43 → k ≠ 63 → k ≠ 75 → V.i k = q.i k := fun k k0 k1 k2 k3 => by
    rw [eV, ← hq.1 k k0 k1]
    exact (if_neg k2).trans (if_neg k3)
  have V43 : V.i 43 = q'.i 43 := by rw [eV]; rfl
  have V38 : V.i 38 = q'.i 38 := by rw [eV]; rfl
  clear eV
  have qV : qe V = qe q := by
    unfold qe
    rw [Va, Vi 20 (by decide) (by decide) (by decide) (by decide), Vi 24 (by decide) (by decide) (by decide) (by decide), Vi 29 (by decide) (by decide) (by decide) (by decide), Vi 33 (by decide) (by decide) (by decide) (by decide), Vi 42 (by decide) (by decide) (by decide) (by decide), Vi 52 (by decide) (by decide) (by decide) (by decide)]
  have peR : pe R = pe P := by
    unfold pe
    rw [r1 20 (by decide) (by decide) (by decide), r1 23 (by decide) (by decide) (by decide), r1 38 (by decide) (by decide) (by decide), r1 22 (by decide) (by decide) (by decide), r8]
  have j2 := h.drp (R := R) (u := V) peR (r1 21 (by decide) (by decide) (by decide)) (r1 44 (by decide) (by decide) (by decide)) (by rw [r8]) (by rw [r8]) qV (by rw [V38]; exact h38) (by rw [Va])
  have pcp : pcC R = pcC P := pcC.pe peR
  have prp : pcR V = pcR q := pcR.qe qV
  refine ⟨j2.fiw la (by rw [r1 43 (by decide) (by decide) (by decide)]; exact le) (fun _ => GKV.of (fun y hy gy => by rw [V43]; exact gk y hy gy) (fun k k1 k2 => by rw [Va]; exact ek k k1 k2) ((Vi 59 (by decide) (by decide) (by decide) (by decide)).trans i59)) (by rw [Vi 11 (by decide) (by decide) (by decide) (by decide)]; exact l11) (by rw [Vi 19 (by decide) (by decide) (by decide) (by decide)]; exact l19) (fun FC SF nm X G h0 c0 ω Z hω r12 hA ng hcc k cur => ?_), r6, Va⟩
  rw [pcp, prp] at cur
  rw [pcp] at r12
  exact hK FC SF nm X ω _ Z hω r12 hcc k (fun z => cur (by rw [r4]; exact z))
/-- the last step of a body's end -/
theorem JRG.pop1 {N n a1 : Nat} {E1 : CS → Option (Unit × CS)} {E2 : CS → Option (Int32 × CS)} {q' V : RS} {v : Int32} {R : Unit × CS} (h : JRG A U B b V0 s0 [] K a e P q) (la : a ≤ 0) (le : e ≤ 0 ∨ (e ≤ 1 ∧ ¬ ALN (P.i 43))) (h53 : (P.i 53).toInt = (n : Int) + 2) (e193 : f_X7_endBody_193 N E1 E2 (CS.setI P 36 v) a1 = some R) (hq : (∀ k : Nat, k ≠ 38 → k ≠ 43 → q'.i k = q.i k) ∧ q'.a = q.a) (h38 : (q'.i 38).toInt ≤ (q.i 38).toInt) (ho : f_X12_over N q' v = some V) (gk : ∀ y ∈ V0, isGo y.v → ((y.2.2.2 : Nat) : Int) < (q'.i 43).toInt) (ek : ∀ k : Nat, 47 ≤ k → k ≤ 62 → q.a k = s0.a k) (i59 : q.i 59 = s0.i 59) (l11 : (s0.i 11).toInt ≤ (q.i 11).toInt) (l19 : (s0.i 19).toInt ≤ (q.i 19).toInt) (hK : ∀ (FC : Nat → Prop) (SF : CS) (nm : Nat → Nat → Prop) (X : Als) (ω : Nat) (j : JCT) (Z : Prop), 1300 ≤ ω → pcC P ≤ 1200 → HC0 nm j.h j.c → K FC SF nm X ω j Z → (v = 1 → GU2 FC SF U nm X (pcC P) (pcR q) j.h (ω + j.l - pcC P) j.c) → Z) : JRW A U B b V0 R.2 V ∧ R.2.o = P.o ∧ V.a = q.a := by
  obtain ⟨r1, r2, r3, r4, r5, r6, r7, r8, r9, r10, r11⟩ := e193x (n := n) h53 e193
  exact h.popx la le r1 r4 r6 r8 hq h38 ho gk ek i59 l11 l19 hK
end
theorem clo_e (x : Int32) : ∃ ee : Int, (ee = 1 ∨ (ee = 0 ∧ ALN x)) ∧ (ee ≤ 0 ∨ (ee ≤ 1 ∧ ¬ ALN x)) := by
  by_cases z : ALN x
  · exact ⟨0, Or.inr ⟨rfl, z⟩, Or.inl (Int.le_refl _)⟩
  · exact ⟨1, Or.inl rfl, Or.inr ⟨Int.le_refl _, z⟩⟩
/-- the rows below, when a row goes -/
theorem clo_veq {d : Int32} {B : CS} {b : RS} {t0 : Nat} {L : List CEL} {x : Int} {S R : CS} {s u : RS} {c1 c : CEL} (hD : COR d B b t0 (c :: L) x S s) (tp : TOP S s c1) (lk : LNK S c1 c) (tb : ∀ j : Nat, (j : Int) < (s.i 38).toInt → u.a 40 j = s.a 40 j) (eo : ∀ y ∈ c :: L, R.o y.2.1 = S.o y.2.1) (ea : ∀ k t : Nat, 66 ≤ k → k ≤ 73 → t < ceT c1 → u.a k t = s.a k t) : vws R u (c :: L) = vws S s (c :: L) := vws.eqf (T := ceT c1) tb (c :: L) hD.o3 eo ea (fun y hy => by
  have z := STK.inl L c _ _ _ hD.2.1 (by have := tp.1; have := lk.1; omega) (by have := tp.2.1; have := lk.2.2.1; omega) (by have := tp.2.2; have := lk.2.2.2.1; omega)
  rw [← lk.2.1] at z
  have z1 := (z y hy).2.2.1
  have z2 := wid1 (S.o y.2.1 0)
  omega)
theorem HC0.tl {nm : Nat → Nat → Prop} {h : Nat} {e : Ent} {c : List Ent} (z : HC0 nm h (e :: c)) : HC0 nm h c := by
  obtain ⟨z1, z2, z3, z4⟩ := z
  have e1 : ops (e :: c) = ops c + (if e.k = 1 then e.z else 0) := rfl
  have e2 : frs (e :: c) = frs c + (if e.k ≤ 3 then 1 else 0) := rfl
  exact ⟨z1.2.2, by omega, by omega, fun e' he => z4 e' (List.mem_cons_of_mem _ he)⟩
/-- an entry less: the names -/
theorem NMH.pop {nm : Nat → Nat → Prop} {e : Ent} {c : List Ent} {S R : CS} {s u : RS} (ng : NMG nm (e :: c) S s) (ne : ¬ e.k = 2) (a48 : R.a 48 = S.a 48) (a49 : R.a 49 = S.a 49) (i38 : u.i 38 = s.i 38) (a40 : u.a 40 = s.a 40) (d38 : (S.i 38).toInt = (R.i 38).toInt + (if e.k ≤ 3 then 1 else 0)) (d52 : (s.i 52).toInt = (u.i 52).toInt + 1) (i23 : R.i 23 = S.i 23) (i42 : u.i 42 = s.i 42) (i20 : u.i 20 = s.i 20) : NMH nm c R u := by
  have e2 : frs (e :: c) = frs c + (if e.k ≤ 3 then 1 else 0) := rfl
  obtain ⟨n1, n2, n3, -, n4⟩ := ng
  refine ⟨fun k hk => ?_, ?_, ?_, ?_, fun e' he => ?_⟩
  · rw [i38] at hk
    rw [a48, a49, a40]
    refine ⟨(n1 k hk).1, fun z => ?_⟩
    obtain ⟨c1, e', c0, h1, h2, h3⟩ := (n1 k hk).2 z
    cases c1 with
    | nil =>
      have h1' : e :: c = e' :: c0 := h1
      cases h1'
      exact absurd h2 ne
    | cons x c1 =>
      have h1' : e :: c = x :: (c1 ++ e' :: c0) := h1
      cases h1'
      exact ⟨c1, e', c0, rfl, h2, h3⟩
  · rw [e2] at n2
    split at n2 <;> split at d38 <;> omega
  · have : (e :: c).length = c.length + 1 := rfl
    omega
  · have z := n4.1
    unfold SLO at z ⊢
    rw [i42, i20]
    exact z
  · have z := n4.2 e' (List.mem_cons_of_mem _ he)
    rw [i23, i42]
    exact z
section
variable {A : JBA} {U : RS} {B : CS} {b : RS} {V0 W : List RVW} {s0 : RS} {K K' : JKT} {a e : Int} {S : CS} {s : RS}
/-- the code's place is below its bound -/
theorem JRG.p12 (h : JRG A U B b V0 s0 W K a e S s) (h44 : (S.i 44).toInt ≤ 900) (ha : a ≤ 200) : JRG A U B b V0 s0 W (fun FC SF nm X ω j Z => pcC S < 1200 ∧ K FC SF nm X ω j Z) a e S s := by
  intro crB
  obtain ⟨b1, b2, b3, b4, Ψ, G, col, YJ, sax, ⟨pin, pin0⟩, tgi, jsi, main⟩ := h crB
  obtain ⟨⟨r1, r2⟩, -⟩ := crB.rms b1
  refine ⟨b1, b2, b3, b4, Ψ, G, col, YJ, sax, ⟨pin, pin0⟩, tgi, jsi, ?_⟩
  intro FC SF nm X h0 ω c0 psi ng0 hc0 hh0 hω
  obtain ⟨⟨ng, hc, hh, wn⟩, mn⟩ := main FC SF nm X h0 ω c0 psi ng0 hc0 hh0 hω
  exact ⟨⟨ng, hc, hh, wn⟩, fun fc fg hA tyc jr => ⟨by unfold pcC; omega, mn fc fg hA tyc jr⟩⟩
/-- an instruction of the reference alone -/
theorem JRG.emr {N : Nat} {o x : Int32} {V : Int32 × RS} (h : JRG A U B b V0 s0 W K a e S s) (hz : f_X12_emit N s o x = some V) (h20 : 0 ≤ (s.i 20).toInt ∧ (s.i 20).toInt < 3000) : JRG A U B b V0 s0 W (fun FC SF nm X ω j Z => (U.a 21 (pcR s) = o ∧ U.a 22 (pcR s) = x ∧ U.a 23 (pcR s) = 0 ∧ (((pcR s : Nat) : Int) < (U.i 20).toInt ∧ (U.i 20).toInt ≤ 3000) ∧ pcR V.2 = pcR s + 1) ∧ K FC SF nm X ω j Z) a e S V.2 := by
  have y := h.cod (jsp_emt (K' := fun FC SF nm X ω j Z => (U.a 21 (pcR s) = o ∧ U.a 22 (pcR s) = x ∧ U.a 23 (pcR s) = 0 ∧ (((pcR s : Nat) : Int) < (U.i 20).toInt ∧ (U.i 20).toInt ≤ 3000) ∧ pcR V.2 = pcR s + 1) ∧ K FC SF nm X ω j Z) (y := -1) hz h20 (Or.inl rfl) (fun FC SF nm X ω j Z q1 q2 q3 q4 q5 q6 ng hc hh tyc tl hω k => ⟨⟨q1, q2 rfl, q3, q4, q5⟩, k⟩))
  rw [Int.add_zero, Int.add_zero] at y
  exact y
end
/-- an instruction is laid also where another count differs -/
theorem em_52 {N : Nat} {s : RS} {o x v : Int32} {z : Int32 × RS} (h : f_X12_emit N s o x = some z) : ∃ z' : Int32 × RS, f_X12_emit N (RS.setI s 52 v) o x = some z' ∧ z'.2.a = z.2.a ∧ (∀ k : Nat, k ≠ 52 → z'.2.i k = z.2.i k) ∧ z'.2.i 52 = v ∧ (∀ k : Nat, k ≠ 20 → z.2.i k = s.i k) ∧ ∀ k : Nat, ¬ (21 ≤ k ∧ k ≤ 23) → z.2.a k = s.a k := by
  have key : ∀ y : Int32, f_X12_emit_21 N s o x y = some z → ∃ z' : Int32 × RS, f_X12_emit_21 N (RS.setI s 52 v) o x y = some z' ∧ z'.2.a = z.2.a ∧ (∀ k : Nat, k ≠ 52 → z'.2.i k = z.2.i k) ∧ z'.2.i 52 = v ∧ (∀ k : Nat, k ≠ 20 → z.2.i k = s.i k) ∧ ∀ k : Nat, ¬ (21 ≤ k ∧ k ≤ 23) → z.2.a k = s.a k := fun y h => by
    unfold f_X12_emit_21 at h ⊢
    obtain ⟨hi, h⟩ := hf_ite h
    rw [if_pos hi]
    refine ⟨_, rfl, ?_⟩
    rw [← Option.some.inj h]
    refine ⟨rfl, fun k hk => ?_, rfl, fun k hk => if_neg hk, fun k hk => ?_⟩
    · by_cases h2 : k = 20
      · subst h2
        rfl
      · exact ((if_neg h2).trans (if_neg hk)).trans (if_neg h2).symm
    · show (RS.setA (RS.setA (RS.setA s 21 y.toNatClampNeg o) 22 y.toNatClampNeg x) 23 y.toNatClampNeg 0).a k = s.a k
      rw [setA_nk (by omega), setA_nk (by omega), setA_nk (by omega)]
  have e20 : (RS.setI s 52 v).i 20 = s.i 20 := rfl
  unfold f_X12_emit at h ⊢
  rw [e20]
  by_cases c : 3000 ≤ s.i 20
  · rw [if_pos c] at h ⊢
    exact key _ h
  · rw [if_neg c] at h ⊢
    exact key _ h
theorem sfr_ss {S : CS} {s : RS} : ∀ L : List CEL, (sfr (vws S s L) : Int) ≤ SSM S L
  | [] => Int.le_refl _
  | c :: L => by
    have ih := sfr_ss (S := S) (s := s) L
    have e1 : sfr (vws S s (c :: L)) = sfr (vws S s L) + dfr (S.o c.2.1 0) := rfl
    have e2 : SSM S (c :: L) = (nSg (S.o c.2.1 0) : Int) + SSM S L := rfl
    have e3 : dfr (S.o c.2.1 0) ≤ nSg (S.o c.2.1 0) := by
      unfold dfr nSg
      by_cases z : S.o c.2.1 0 = 212 ∨ S.o c.2.1 0 = 213 ∨ S.o c.2.1 0 = 215 ∨ S.o c.2.1 0 = 216
      · rw [if_pos z, if_pos (Or.inr (Or.inr (by rcases z with z | z | z | z; exact Or.inl z; exact Or.inr (Or.inl z); exact Or.inr (Or.inr (Or.inl z)); exact Or.inr (Or.inr (Or.inr (Or.inl z))))))]
        exact Nat.le_refl _
      · rw [if_neg z]
        exact Nat.zero_le _
    omega
end
section
/-! both readers: a label's end -/
/-- the last step of a body's end -/
theorem en_pop {N : Nat} {E1 : CS → Option (Unit × CS)} {E2 : CS → Option (Int32 × CS)} {d : Int32} {B : CS} {b : RS} {t0 : Nat} {L : List CEL} {S P : CS} {q q' V : RS} {c1 c : CEL} {v : Int32} {R : Unit × CS} (hE : COR d B b t0 (c :: L) (-9) S q) (eo1 : P.o c1.2.1 = S.o c1.2.1) (tp : TOP S q c1) (ts : tpI q = (ceT c1 : Int)) (hm : NMC c1 S) (one : isOne (S.o c1.2.1 0)) (n7 : ¬ S.o c1.2.1 0 = 207) (n4 : ¬ S.o c1.2.1 0 = 304) (na : isGo (S.o c1.2.1 0) → ¬ q.a 44 (ceG c1) = 3) (bz : BAZ B b (c1 :: c :: L)) (hT : t0 ≤ ceT c1) (t9 : ceT c1 < 1000) (lk : LNK S c1 c) (lw : LOW S q c) (a1 : ENV d P q) (a2 : CKX S P) (hv1 : v = 0 ∨ v = 1) (ho : f_X12_over N q' v = some V) (hq : (∀ k : Nat, k ≠ 43 → q'.i k = q.i k) ∧ q'.l = q.l ∧ q'.a = q.a ∧ q'.b = q.b) (q43 : (q'.i 43).toInt = (q.i 43).toInt - (nGo (S.o c1.2.1 0) : Int)) (e193 : f_X7_endBody_193 N E1 E2 (CS.setI P 36 v) c1.2.1 = some R) : POPD d B b t0 c L R.2 V := by
  have hinq : INL S q (ceT c1) (c :: L) := by
    have z := STK.inl L c _ _ _ hE.2.1 (by have := tp.1; have := lk.1; omega) (by have := tp.2.1; have := lk.2.2.1; omega) (by have := tp.2.2; have := lk.2.2.2.1; omega)
    rw [← lk.2.1] at z
    exact z
  have eoc := (hinq.o a2.z c List.mem_cons_self).1
  have hEp := hE.cx hinq hT a1 a2
  have tpq : TOP P q c1 := ⟨by rw [a2.1.2.2.2.2.1]; exact tp.1, by rw [eo1]; exact tp.2.1, by rw [eo1]; exact tp.2.2⟩
  have lkp : LNK P c1 c := by
    unfold LNK at *
    rw [eo1, eoc]
    exact lk
  have lwp : LOW P q c := by
    unfold LOW at *
    rw [eoc]
    exact lw
  exact (pop_one hEp tpq lkp lwp bz hT t9 ts (by
    unfold NMC at *
    rw [eo1, a2.1.2.2.2.1]
    exact hm) (by rw [eo1]; exact one) (by rw [eo1]; exact n7) (by rw [eo1]; exact n4) (fun z => by rw [eo1] at z; exact na z) hv1 ho hq (by rw [eo1]; exact q43) e193).1
theorem TOP.e22 {F : Nat → Prop} {S : CS} {s q : RS} {c : CEL} (h : TOP S s c) (e : E22 F s q) : TOP S q c := by
  unfold TOP at *
  rw [e.1]
  exact h
set_option maxHeartbeats 1000000 in
theorem en_lab {N : Nat} {E1 : CS → Option (Unit × CS)} {E2 : CS → Option (Int32 × CS)} {d : Int32} {B : CS} {b : RS} {t0 n : Nat} {L : List CEL} {x : Int} {S : CS} {s U : RS} {c1 c : CEL} {R : Unit × CS} {Aj : JBA} (mA : JBM U Aj) (hC : COR d B b t0 (c1 :: c :: L) x S s) (tp : TOP S s c1) (hM : MEN c1 S s) (h36 : S.i 36 = 0 ∨ S.i 36 = 1) (h303 : S.o c1.2.1 0 = 303) (bz : BAZ B b (c1 :: c :: L)) (hT : t0 ≤ ceT c1) (e : f_X7_endBody N E1 E2 S c1.2.1 = some R) (g : f_X12_parse_10 N n s = some U) : ∃ (m : Nat) (u : RS), f_X12_parse_10 N m u = some U ∧ POPD d B b t0 c L R.2 u ∧ JTR Aj U B b (c1 :: c :: L) S s (vws R.2 u (c :: L)) R.2 u := by
  obtain ⟨one, o5, ts, h75, hm⟩ := hM
  obtain ⟨m1, e1, k1, m2, e2, k2, cst⟩ := STK.mem _ _ _ _ hC.2.1 c1 List.mem_cons_self
  obtain ⟨f1, f2, f3, f4, f5⟩ := cst.2.2.1.2.2.2.1 h303
  have hv := hC.1
  have go : isGo (S.o c1.2.1 0) := Or.inl h303
  -- the reference
  obtain ⟨m2, V, hV, g2⟩ := rl_5 g ts hv.1.2.1 f1
  unfold f_X12_named at hV
  obtain ⟨hib, hV⟩ := hf_ite hV
  have t9 : ceT c1 < 1000 := by
    have h2 : (s.i 63).toInt = (ceT c1 : Int) := ts
    have := hib.2
    omega
  have g66 : (s.a 66 (ceT c1)).toNatClampNeg = ceG c1 := by
    show (s.a 66 (ceT c1)).toInt.toNat = ceG c1
    omega
  rw [tp_nat ts, if_pos f2, g66] at hV
  obtain ⟨-, hV⟩ := hf_ite hV
  obtain ⟨q, hq, hV⟩ := hf_bind hV
  -- the chain
  obtain ⟨hD, inj, ord, lk, lw⟩ := hC.drop (by rw [h303]; unfold isTy; decide) (by rw [h303]; decide) (by rw [h303]; rfl) (by rw [h303]; rfl)
  obtain ⟨-, -, b0, col, hc⟩ := id hC.2.2.2.2.2.2.2.2.2.2
  have hx := (hc.2.2.1 c1 List.mem_cons_self go).1
  have e22 := pt_in (F := FRE S s (c :: L) (cdr (ceG c1) col) (b.i 20).toInt) (κ := (ceG c1, true)) hc (fun k hk => (hc.fre b0).1 k true hk) hx hq
  obtain ⟨hE, -⟩ := hD.e22 (hc.drop inj) e22
  obtain ⟨l1, x1, x2, ⟨x3, x4, x5, x6⟩, x7, x8⟩ := pt_ex hc hx hq
  have q75 : q.i 75 = S.i 36 := by rw [e22.1]; exact h75
  have q50 : q.a 50 = s.a 50 := e22.2.2.2.1 50 (by decide)
  -- the class
  unfold f_X7_endBody at e
  obtain ⟨-, e⟩ := hf_ite e
  rw [if_neg (by rw [h303]; decide), if_neg (by rw [h303]; decide), if_neg (by rw [h303]; decide), if_pos h303] at e
  obtain ⟨p, ep, e⟩ := hf_bind e
  obtain ⟨a1, a2, -, -⟩ := y_aim hv ep
  have hin := hC.inl tp (T := ceT c1 + wid (S.o c1.2.1 0)) rfl
  have hCp := hC.cx hin (by omega) a1 a2
  have eo : ∀ y ∈ c1 :: c :: L, p.2.o y.2.1 = S.o y.2.1 := fun y hy => (hin.o a2.z y hy).1
  have p36 : p.2.i 36 = S.i 36 := a2.1.2.1
  have eo1 := eo c1 List.mem_cons_self
  -- flags
  have fin : ∃ v : Int32, (v = 0 ∨ v = 1) ∧ (S.i 36 = 1 → v = 1) ∧ (s.a 50 (ceG c1) = 1 → v = 1) ∧ f_X12_over N (RS.setI q 43 (q.i 43 - 1)) v = some V ∧ f_X7_endBody_193 N E1 E2 (CS.setI p.2 36 v) c1.2.1 = some R := by
    rw [q75, q50] at hV
    rw [p36] at e
    by_cases z : S.i 36 = 0
    · rw [if_pos z] at hV e
      obtain ⟨p31, e31, e⟩ := hf_bind e
      obtain ⟨y1, y2⟩ := y_gone hCp (by rw [eo1]; exact go) (Or.inl ⟨rfl, rfl⟩) e31
      have y3 : p31.1 = s.a 50 (ceG c1) := y2.trans (if_pos rfl)
      rw [y1, y3] at e
      by_cases k : s.a 50 (ceG c1) = 0
      · rw [if_pos k] at hV e
        rw [ob_id] at hV
        exact ⟨0, Or.inl rfl, fun y => by rw [z] at y; exact absurd y (by decide), fun y => by rw [k] at y; exact absurd y (by decide), hV, e⟩
      · rw [if_neg k] at hV e
        rw [ob_id] at hV
        exact ⟨1, Or.inr rfl, fun _ => rfl, fun _ => rfl, hV, e⟩
    · rw [if_neg z] at hV e
      rw [ob_id] at hV
      exact ⟨1, Or.inr rfl, fun _ => rfl, fun _ => rfl, hV, e⟩
  obtain ⟨v, hv1, va, vf, ho, e193⟩ := fin
  -- the row goes
  have ng : nGo (S.o c1.2.1 0) = 1 := nGo1 go
  have q43 : q.i 43 = s.i 43 := by rw [e22.1]
  have g43 : (q.i 43 - 1).toInt = (q.i 43).toInt - 1 := by
    have e1 : (1 : Int32).toInt = 1 := by decide
    have hi := Int32.toInt_lt (q.i 43)
    have := tp.2.1
    rw [← q43] at this
    rw [toInt_sub] <;> rw [e1] <;> omega
  refine ⟨m2, V, g2, en_pop hE eo1 (tp.e22 e22) (by show (q.i 63).toInt = _; rw [e22.1]; exact ts) hm one (by rw [h303]; decide) (by rw [h303]; decide) (fun _ => by rw [e22.2.2.2.1 44 (by decide), f4]; decide) bz hT t9 lk (lw.e22 e22) (a1.e22 e22) a2 hv1 ho ⟨fun k hk => if_neg hk, rfl, rfl, rfl⟩ (by rw [ng]; exact g43) e193, fun _ jw => ?_⟩
  -- the code
  have hr0 : (vw S s c1).v = 303 := h303
  have goV : isGo (vw S s c1).v := go
  have nlo : ¬ isLo (vw S s c1).v := fun z => by
    rw [hr0] at z
    rcases z with z | z | z | z <;> exact absurd z (by decide)
  have nty : ¬ isTy (vw S s c1).v := fun z => by
    rw [hr0] at z
    rcases z with z | z | z | z <;> exact absurd z (by decide)
  have nsi : ∀ k : Nat, ¬ rsite (vw S s c1) k := fun k z => by
    unfold rsite at z
    rw [hr0] at z
    rcases z with ⟨z, -⟩ | ⟨z, -⟩ | ⟨z, -⟩ | ⟨z, -⟩
    · rcases z with z | z | z <;> exact absurd z (by decide)
    · exact absurd z (by decide)
    · rcases z with z | z <;> exact absurd z (by decide)
    · rcases z with z | z <;> exact absurd z (by decide)
  have gis := hC.gis
  have h44 : (S.i 44).toInt ≤ 900 := by
    rw [hv.p44.1]
    exact (i11_hi hv).2
  obtain ⟨ee, he1, he2⟩ : ∃ ee : Int, (ee = 1 ∨ (ee = 0 ∧ ALN (S.i 43))) ∧ (ee ≤ 0 ∨ (ee ≤ 1 ∧ ¬ ALN (S.i 43))) := by
    by_cases z : ALN (S.i 43)
    · exact ⟨0, Or.inr ⟨rfl, z⟩, Or.inl (Int.le_refl _)⟩
    · exact ⟨1, Or.inl rfl, Or.inr ⟨Int.le_refl _, z⟩⟩
  have rt : rtgs (vw S s c1) = [S.o c1.2.1 9] := by
    unfold rtgs
    rw [hr0, if_neg (by decide), if_pos (by decide)]
    rfl
  have j0 := JRW.clo (V := vws S s (c :: L)) (r := vw S s c1) (u := q) (u' := q) (S' := S) (l1 := l1) (l2 := []) (vb := s.i 20) (vc := 0) (vs := 0) (e := ee) (dr := 0) jw (fun z => z.c0 (by rw [hr0]; decide) (NK.eq rfl rfl (by rw [x3]) (by rw [x3]))) h44 mA (vws.pl hC) (fun _ y hy gy e => by have := gis y hy gy; have e' : y.2.2.2 = ceG c1 := e; omega) nty (by rw [hr0]; decide) (fun _ => ⟨x1, fun z => absurd z nlo⟩) ⟨x3, x6⟩ (fun _ j hj => x7 j hj) (fun z => absurd z nlo) (fun j z => absurd z (nsi j)) (fun j z _ _ => x8 j (z goV)) (D38.rf _) (D52.rf _) ⟨Or.inl rfl, rfl, rfl, rfl⟩ (fun _ _ _ => rfl) (clo_nm (by rw [hr0]; decide) nty (by rw [hr0]; decide) x3 (x6 40 (by decide))) (fun _ => dbr.ge _ _) he1
  rw [rt] at j0
  have j1 := JRG.aim (W1 := []) (W2 := []) (K' := fun FC SF nm X ω j Z => (cTg SF (S.o c1.2.1 9)).toInt = ((pcC S : Nat) : Int) ∧ KCL U (vw S s c1) S s (s.i 20) 0 0 FC SF nm X ω j Z) j0 ep h44 (by rcases he1 with z | ⟨z, -⟩ <;> omega) (fun FC SF nm X ω j Z h k => ⟨h, k⟩)
  have pcp : pcC p.2 = pcC S := by unfold pcC f_X0_aim at *; cases ep; rfl
  have prp : pcR q = pcR s := by
    unfold pcR
    rw [x3]
  have p43 : p.2.i 43 = S.i 43 := by unfold f_X0_aim at ep; cases ep; rfl
  have t43 := tp.2.1
  obtain ⟨jr, oR, aV⟩ := j1.pop1 (n := c.1) (q' := RS.setI q 43 (q.i 43 - 1)) (by omega) (by rw [p43]; exact he2) (by rw [a2.1.2.2.2.2.1]; have := tp.1; have := lk.1; omega) e193 ⟨fun k _ hk => if_neg hk, rfl⟩ (Int.le_refl _) ho (fun y hy gy => by
    have := gis y hy gy
    show ((y.2.2.2 : Nat) : Int) < (q.i 43 - 1).toInt
    rw [g43, q43]
    omega) (fun _ _ _ => rfl) rfl (Int.le_refl _) (Int.le_refl _) (fun FC SF nm X ω j Z hω r12 hcc k cur => by
    obtain ⟨ct, ⟨-, -, -⟩, G', -, -, hX⟩ := k
    have p20 := hv.p20
    have pS : (s.i 20).toInt = ((pcR s : Nat) : Int) := (Int.toNat_of_nonneg p20.1).symm
    have en : ∀ (h l : Nat), jen G' ω (vw S s c1) h l = [] := fun h l => jen.no (by rw [hr0]; decide) nty (by rw [hr0]; decide)
    have bk : jbk G' ω (vw S s c1) j = j := if_neg (by rw [hr0]; decide)
    rw [pcp, prp] at cur
    refine hX ⟨fun z => absurd (hr0.symm.trans z) (by decide), fun z => absurd (hr0.symm.trans z) (by decide), fun z => absurd (hr0.symm.trans z) (by decide), fun z => absurd (hr0.symm.trans z) (by decide), fun z => absurd (hr0.symm.trans z) (by decide), fun z => absurd (hr0.symm.trans z) (by decide), fun z => absurd (hr0.symm.trans z) (by decide), fun z => absurd z nty, fun _ => noc.gl⟩ (fun _ => ⟨fun fl => ?_, fun z => absurd z nlo⟩) (fun h1 => ?_)
    · have f1 : s.a 50 (ceG c1) = 1 := fl
      rw [bk]
      exact ⟨_, _, ct, pS, (cur (vf f1)).1⟩
    · have jl : jlv (vw S s c1).v = 0 := by rw [hr0]; rfl
      rw [en, jl]
      exact cur (va h1))
  have veq : vws R.2 V (c :: L) = vws S s (c :: L) := vws.eqf (T := ceT c1) (fun j _ => by rw [aV, x6 40 (by omega)]) (c :: L) hD.o3 (fun y hy => by rw [oR]; exact eo y (List.mem_cons_of_mem _ hy)) (fun k t h1 h2 _ => by rw [aV, x6 k (by omega)]) (fun y hy => by
    have z := STK.inl L c _ _ _ hD.2.1 (by have := tp.1; have := lk.1; omega) (by have := tp.2.1; have := lk.2.2.1; omega) (by have := tp.2.2; have := lk.2.2.2.1; omega)
    rw [← lk.2.1] at z
    have z1 := (z y hy).2.2.1
    have z2 := wid1 (S.o y.2.1 0)
    omega)
  rw [veq]
  exact jr
end
section
/-! both readers: an else's end -/
set_option maxHeartbeats 1000000 in
theorem en_else {N : Nat} {E1 : CS → Option (Unit × CS)} {E2 : CS → Option (Int32 × CS)} {d : Int32} {B : CS} {b : RS} {t0 n : Nat} {L : List CEL} {x : Int} {S : CS} {s U : RS} {c1 c : CEL} {R : Unit × CS} {Aj : JBA} (mA : JBM U Aj) (hC : COR d B b t0 (c1 :: c :: L) x S s) (tp : TOP S s c1) (hM : MEN c1 S s) (h36 : S.i 36 = 0 ∨ S.i 36 = 1) (h204 : S.o c1.2.1 0 = 204) (bz : BAZ B b (c1 :: c :: L)) (hT : t0 ≤ ceT c1) (e : f_X7_endBody N E1 E2 S c1.2.1 = some R) (g : f_X12_parse_10 N n s = some U) : ∃ (m : Nat) (u : RS), f_X12_parse_10 N m u = some U ∧ POPD d B b t0 c L R.2 u ∧ JTR Aj U B b (c1 :: c :: L) S s (vws R.2 u (c :: L)) R.2 u := by
  obtain ⟨one, o5, ts, h75, hm⟩ := hM
  obtain ⟨m1, e1, k1, m2, e2, k2, cst⟩ := STK.mem _ _ _ _ hC.2.1 c1 List.mem_cons_self
  obtain ⟨f1, f2, f3, f4⟩ := cst.2.2.1.2.2.2.2.2.1 h204
  have hv := hC.1
  have ngo : ¬ isGo (S.o c1.2.1 0) := by
    rw [h204]
    unfold isGo
    decide
  obtain ⟨m2, V, hV, g2⟩ := rl_9 g ts hv.1.2.1 f1
  unfold f_X12_branch at hV
  obtain ⟨hib, hV⟩ := hf_ite hV
  have t9 : ceT c1 < 1000 := by
    have h2 : (s.i 63).toInt = (ceT c1 : Int) := ts
    have := hib.2
    omega
  rw [tp_nat ts, f2, if_neg (by decide), if_neg (by decide), if_neg (by decide)] at hV
  obtain ⟨-, hV⟩ := hf_ite hV
  obtain ⟨hD, inj, ord, lk, lw⟩ := hC.drop (by rw [h204]; unfold isTy; decide) (by rw [h204]; decide) (by rw [h204]; rfl) (by rw [h204]; rfl)
  obtain ⟨-, -, b0, col, hc⟩ := id hC.2.2.2.2.2.2.2.2.2.2
  have fr : FRE S s (c :: L) (cdr (ceG c1) col) (b.i 20).toInt (s.a 68 (ceT c1)).toNatClampNeg := (hc.fre b0).2 _ (Or.inr (Or.inl ⟨h204, rfl⟩))
  have e22 := E22.set (s := s) (v := s.i 20) fr
  obtain ⟨hE, -⟩ := hD.e22 (hc.drop inj) e22
  unfold f_X7_endBody at e
  obtain ⟨-, e⟩ := hf_ite e
  rw [if_neg (by rw [h204]; decide), if_pos h204] at e
  obtain ⟨p, ep, e⟩ := hf_bind e
  obtain ⟨a1, a2, -, -⟩ := y_aim hv ep
  have hin := hC.inl tp (T := ceT c1 + wid (S.o c1.2.1 0)) rfl
  have eo1 := (hin.o a2.z c1 List.mem_cons_self).1
  have p36 : p.2.i 36 = S.i 36 := a2.1.2.1
  obtain ⟨q, hq⟩ : ∃ q, q = RS.setA s 22 (s.a 68 (ceT c1)).toNatClampNeg (s.i 20) := ⟨_, rfl⟩
  rw [← hq] at hV e22 hE
  have x8 : ∀ j : Nat, ¬ j = (s.a 68 (ceT c1)).toNatClampNeg → q.a 22 j = s.a 22 j := by rw [hq]; exact fun j hj => setA_ne hj
  have x7 : q.a 22 (s.a 68 (ceT c1)).toNatClampNeg = s.i 20 := by rw [hq]; exact setA_at
  clear hq
  have fin : ∃ v : Int32, (v = 0 ∨ v = 1) ∧ (S.i 36 = 1 → v = 1) ∧ (S.o c1.2.1 6 = 1 → v = 1) ∧ f_X12_over N q v = some V ∧ f_X7_endBody_193 N E1 E2 (CS.setI p.2 36 v) c1.2.1 = some R := by
    rw [h75, f3] at hV
    rw [p36] at e
    by_cases z : S.i 36 = 0
    · rw [if_pos z] at hV e
      obtain ⟨-, e⟩ := hf_ite e
      rw [eo1] at e
      rcases f4 with k | k
      · rw [if_pos k] at e
        rw [if_neg (by rw [k]; decide), ob_id] at hV
        exact ⟨0, Or.inl rfl, fun y => by rw [z] at y; exact absurd y (by decide), fun y => by rw [k] at y; exact absurd y (by decide), hV, e⟩
      · rw [if_neg (by rw [k]; decide)] at e
        rw [if_pos k, ob_id] at hV
        exact ⟨1, Or.inr rfl, fun _ => rfl, fun _ => rfl, hV, e⟩
    · rw [if_neg z] at hV e
      rw [ob_id] at hV
      exact ⟨1, Or.inr rfl, fun _ => rfl, fun _ => rfl, hV, e⟩
  obtain ⟨v, hv1, va, vf, ho, e193⟩ := fin
  refine ⟨m2, V, g2, en_pop hE eo1 (tp.e22 e22) (by show (q.i 63).toInt = _; rw [e22.1]; exact ts) hm one (by rw [h204]; decide) (by rw [h204]; decide) (fun z => absurd z ngo) bz hT t9 lk (lw.e22 e22) (a1.e22 e22) a2 hv1 ho ⟨fun _ _ => rfl, rfl, rfl, rfl⟩ (by rw [nGo.eq ngo]; omega) e193, fun _ jw => ?_⟩
  -- the code
  have hr0 : (vw S s c1).v = 204 := h204
  have ngV : ¬ isGo (vw S s c1).v := ngo
  have nlo : ¬ isLo (vw S s c1).v := fun z => ngV (Or.inr (Or.inr z))
  have nty : ¬ isTy (vw S s c1).v := fun z => by
    rw [hr0] at z
    rcases z with z | z | z | z <;> exact absurd z (by decide)
  have r68 : (vw S s c1).2.1 68 = s.a 68 (ceT c1) := (vw_at (k := 68) ⟨by decide, by decide⟩)
  have si : ∀ k : Nat, rsite (vw S s c1) k → (k : Int) = (s.a 68 (ceT c1)).toInt := fun k z => by
    unfold rsite at z
    rw [hr0] at z
    rcases z with ⟨z, -⟩ | ⟨-, z⟩ | ⟨z, -⟩ | ⟨z, -⟩
    · rcases z with z | z | z <;> exact absurd z (by decide)
    · rw [r68] at z
      exact z
    · rcases z with z | z <;> exact absurd z (by decide)
    · rcases z with z | z <;> exact absurd z (by decide)
  have pl8 := hc.2.2.2.2.2.2 c1 List.mem_cons_self (s.a 68 (ceT c1)).toInt (Or.inr (Or.inl ⟨h204, rfl⟩))
  have c8 := clampI (show 0 ≤ (s.a 68 (ceT c1)).toInt by have := pl8.1; omega)
  have gis := hC.gis
  have h44 : (S.i 44).toInt ≤ 900 := by
    rw [hv.p44.1]
    exact (i11_hi hv).2
  obtain ⟨ee, he1, he2⟩ := clo_e (S.i 43)
  have rt : rtgs (vw S s c1) = [S.o c1.2.1 9] := by
    unfold rtgs
    rw [hr0, if_neg (by decide), if_pos (by decide)]
    rfl
  have x3 := e22.1
  have x6 := e22.2.2.2.1
  have j0 := JRW.clo (V := vws S s (c :: L)) (r := vw S s c1) (u := q) (u' := q) (S' := S) (l1 := []) (l2 := []) (vb := 0) (vc := 0) (vs := s.i 20) (e := ee) (dr := 0) jw (fun z => z.c0 (by rw [hr0]; decide) (NK.eq rfl rfl (by rw [x3]) (by rw [x3]))) h44 mA (vws.pl hC) (fun z => absurd z ngV) nty (by rw [hr0]; decide) (fun z => absurd z ngV) ⟨x3, x6⟩ (fun z => absurd z ngV) (fun z => absurd z nlo) (fun j z => by
    have z1 := si j z
    have z2 : j = (s.a 68 (ceT c1)).toNatClampNeg := by omega
    exact ⟨by rw [z2]; exact x7, by have := pl8.1; omega⟩) (fun j _ _ z => x8 j (fun z2 => z (by
    unfold rsite
    refine Or.inr (Or.inl ⟨hr0, ?_⟩)
    rw [r68, z2]
    exact c8))) (D38.rf _) (D52.rf _) ⟨Or.inl rfl, rfl, rfl, rfl⟩ (fun _ _ _ => rfl) (clo_nm (by rw [hr0]; decide) nty (by rw [hr0]; decide) x3 (x6 40 (by decide))) (fun _ => dbr.ge _ _) he1
  rw [rt] at j0
  have j1 := JRG.aim (W1 := []) (W2 := []) (K' := fun FC SF nm X ω j Z => (cTg SF (S.o c1.2.1 9)).toInt = ((pcC S : Nat) : Int) ∧ KCL U (vw S s c1) S s 0 0 (s.i 20) FC SF nm X ω j Z) j0 ep h44 (by rcases he1 with z | ⟨z, -⟩ <;> omega) (fun FC SF nm X ω j Z h k => ⟨h, k⟩)
  have pcp : pcC p.2 = pcC S := by unfold pcC f_X0_aim at *; cases ep; rfl
  have prp : pcR q = pcR s := by
    unfold pcR
    rw [x3]
  have p43 : p.2.i 43 = S.i 43 := by unfold f_X0_aim at ep; cases ep; rfl
  have t43 := tp.2.1
  obtain ⟨jr, oR, aV⟩ := j1.pop1 (n := c.1) (q' := q) (by omega) (by rw [p43]; exact he2) (by rw [a2.1.2.2.2.2.1]; have := tp.1; have := lk.1; omega) e193 ⟨fun k _ _ => rfl, rfl⟩ (Int.le_refl _) ho (fun y hy gy => by
    have := gis y hy gy
    rw [x3]
    omega) (fun _ _ _ => rfl) rfl (Int.le_refl _) (Int.le_refl _) (fun FC SF nm X ω j Z hω r12 hcc k cur => by
    obtain ⟨ct, ⟨st, hd, -⟩, G', -, -, hX⟩ := k
    obtain ⟨p1, h1', -, h2'⟩ := hd (S.o c1.2.1 10) (Or.inl ⟨Or.inr (Or.inr (Or.inr hr0)), rfl⟩)
    have p20 := hv.p20
    have pS : (s.i 20).toInt = ((pcR s : Nat) : Int) := (Int.toNat_of_nonneg p20.1).symm
    have en : ∀ (h l : Nat), jen G' ω (vw S s c1) h l = [] := fun h l => jen.no (by rw [hr0]; decide) nty (by rw [hr0]; decide)
    rw [pcp, prp] at cur
    refine hX ⟨fun z => absurd (hr0.symm.trans z) (by decide), fun _ z6 => ?_, fun z => absurd (hr0.symm.trans z) (by decide), fun z => absurd (hr0.symm.trans z) (by decide), fun z => absurd (hr0.symm.trans z) (by decide), fun z => absurd (hr0.symm.trans z) (by decide), fun z => absurd (hr0.symm.trans z) (by decide), fun z => absurd z nty, fun _ => noc.gl⟩ (fun z => absurd z ngV) (fun h1 => ?_)
    · have e9 := st (s.a 68 (ceT c1)).toNatClampNeg (by
        unfold rsite
        refine Or.inr (Or.inl ⟨hr0, ?_⟩)
        rw [r68]
        exact c8)
      refine ⟨_, _, p1, ct, ?_, h1', h2', (cur (vf z6)).1⟩
      rw [r68, e9]
      exact pS
    · have jl : jlv (vw S s c1).v = 0 := by rw [hr0]; rfl
      rw [en, jl]
      exact cur (va h1))
  rw [clo_veq hD tp lk (fun j _ => by rw [aV, x6 40 (by omega)]) (fun y hy => by rw [oR]; exact (hin.o a2.z y (List.mem_cons_of_mem _ hy)).1) (fun k t h1 h2 _ => by rw [aV, x6 k (by omega)])]
  exact jr
end
section
/-! both readers: a while's end -/
theorem E22.mono {F G : Nat → Prop} {s u : RS} (h : E22 F s u) (m : ∀ k : Nat, F k → G k) : E22 G s u := ⟨h.1, h.2.1, h.2.2.1, h.2.2.2.1, fun j hj => h.2.2.2.2 j (fun z => hj (m j z))⟩
theorem FRE.mv {S : CS} {s u : RS} {L : List CEL} {col : Nat → Option (Nat × Bool)} {b20 : Int} {k : Nat} (h : FRE S s L col b20 k) (e : ∀ q ∈ L, u.a 66 (ceT q) = s.a 66 (ceT q)) : FRE S u L col b20 k := ⟨h.1, h.2.1, fun q hq t => by
  rw [e q hq]
  exact h.2.2 q hq t⟩
theorem CKZ.rf (S : CS) : CKZ S S := (CKX.rf S).z
/-- as COR.mv, but instructions may be fewer -/
theorem COR.mv3 {d : Int32} {B : CS} {b : RS} {t0 T : Nat} {L : List CEL} {x : Int} {S : CS} {s u : RS} (h : COR d B b t0 L x S s) (hin : INL S s T L) (hT : t0 ≤ T) (ev : ENV d S u) (f : FRB T s u) (tk : TBK s u) (q : (s.i 11).toInt ≤ (u.i 11).toInt ∧ phI b + PDM S L ≤ phI u ∧ (s.i 17).toInt ≤ (u.i 17).toInt ∧ (u.i 19).toInt = (s.i 19).toInt) : COR d B b t0 L x S u := by
  obtain ⟨t1, t2, t3, t4, t5, t6, t7, t8, t9, t10⟩ := tk.1.1
  have tbb := h.2.2.2.2.2.1.2.1
  have tb := tk.1.r
  have n8 := h.2.2.2.2.2.2.2.2.1.2.1
  refine h.mv2 hin hT ev f tb tk.2 ⟨t1, t2, t3, t8, t9, t10⟩ (CKZ.rf S) rfl rfl (fun y hy => (h.2.2.2.2.2.2.2.1.2.1 y hy).2) h.2.2.2.2.1.2.2.1 (by rw [t4]; exact tbb.1) (by rw [t5]; exact tbb.2.1) (by rw [t7]; exact tbb.2.2.1) ?_ ⟨Int.le_refl _, Int.le_refl _, Int.le_refl _⟩ q (by rw [t4]; omega)
  obtain ⟨⟨a1, a2⟩, a3⟩ := h.2.2.2.2.2.2.2.2.2.1
  unfold IAR
  rw [t5]
  refine ⟨⟨fun z => ?_, fun z => ?_⟩, a3⟩
  · obtain ⟨g, g1, g2⟩ := a1 z
    exact ⟨g, g1, (tb.2.1 g g1).1.trans g2⟩
  · obtain ⟨g, g1, g2⟩ := z
    exact a2 ⟨g, g1, (tb.2.1 g g1).1.symm.trans g2⟩
/-- an instruction laid after two chains are aimed: as if it were laid first -/
theorem lp_alt {N : Nat} {S : CS} {L : List CEL} {col : Nat → Option (Nat × Bool)} {b20 : Int} {g T pf : Nat} {s s1 q : RS} {y : Int32 × RS} {vc op x : Int32} (hc : COL S s L col b20) (h48 : (s.a 48 g).toInt < 0 ∨ ∃ j : Nat, (s.a 48 g).toInt = (j : Int) ∧ col j = some (g, true)) (h49 : (s.a 49 g).toInt < 0 ∨ ∃ j : Nat, (s.a 49 g).toInt = (j : Int) ∧ col j = some (g, false)) (hpf : pf = 66 ∨ pf = 67) (n67 : col (s.a pf T).toNatClampNeg = none) (s67 : (((s.a pf T).toNatClampNeg : Nat) : Int) < (s.i 20).toInt) (h20 : 0 ≤ (s.i 20).toInt ∧ (s.i 20).toInt < 3000) (hp1 : f_X12_patch N s (s.a 49 g) vc = some s1) (hy : f_X12_emit N s1 op x = some y) (hp2 : f_X12_patch N (RS.setA y.2 22 (y.2.a pf T).toNatClampNeg (y.2.i 20)) (y.2.a 48 g) (y.2.i 20) = some q) : ∃ (l1 l2 : List Nat) (u : RS), (lks s (s.a 48 g) l1 ∧ lks s (s.a 49 g) l2) ∧ S22 s u ∧ (∀ j ∈ l1, u.a 22 j = s.i 20 + 1) ∧ (∀ j ∈ l2, u.a 22 j = vc) ∧ u.a 22 (s.a pf T).toNatClampNeg = s.i 20 + 1 ∧ (∀ j : Nat, ¬ j ∈ l1 → ¬ j ∈ l2 → ¬ j = (s.a pf T).toNatClampNeg → u.a 22 j = s.a 22 j) ∧ (∀ u' : RS, u'.i 20 = u.i 20 → u'.a = u.a → ∃ z : Int32 × RS, f_X12_emit N u' op x = some z ∧ z.2.a = q.a ∧ z.2.i 20 = q.i 20 ∧ ∀ k : Nat, k ≠ 20 → z.2.i k = u'.i k) ∧ q.i 20 = s.i 20 + 1 ∧ (∀ k : Nat, k ≠ 20 → q.i k = s.i k) ∧ (∀ k : Nat, ¬ (21 ≤ k ∧ k ≤ 23) → q.a k = s.a k) := by
  obtain ⟨l2, a1, a2, ⟨a3, a4, a5, a6⟩, a7, a8⟩ := pt_ex hc h49 hp1
  obtain ⟨p, hp⟩ : ∃ p : Nat, p = (s.i 20).toNatClampNeg := ⟨_, rfl⟩
  have pI : (p : Int) = (s.i 20).toInt := by rw [hp]; exact Int.toNat_of_nonneg h20.1
  have e3 : (3000 : Int32).toInt = 3000 := by decide
  have nle : ¬ (3000 : Int32) ≤ s.i 20 := fun z => by
    have := le_int z
    omega
  have ibs : ib (s.i 20) 3000 := ⟨by omega, by omega⟩
  have em : ∀ σ : RS, σ.i 20 = s.i 20 → f_X12_emit N σ op x = some (s.i 20, RS.setI (RS.setA (RS.setA (RS.setA σ 21 p op) 22 p x) 23 p 0) 20 (s.i 20 + 1)) := fun σ e => by
    unfold f_X12_emit f_X12_emit_21
    rw [e, if_neg nle, if_pos ibs, ← hp]
  have eqA : ∀ (σ τ : RS) (w : Int32) (k : Nat), k ≠ 22 → σ.a k = τ.a k → (RS.setI (RS.setA (RS.setA (RS.setA σ 21 p op) 22 p x) 23 p 0) 20 w).a k = (RS.setI (RS.setA (RS.setA (RS.setA τ 21 p op) 22 p x) 23 p 0) 20 w).a k := fun σ τ w k hk h => by
    show (RS.setA (RS.setA (RS.setA σ 21 p op) 22 p x) 23 p 0).a k = (RS.setA (RS.setA (RS.setA τ 21 p op) 22 p x) 23 p 0).a k
    funext j
    by_cases k3 : k = 23
    · subst k3
      by_cases hj : j = p
      · rw [hj, setA_at, setA_at]
      · have z : ∀ σ : RS, (RS.setA (RS.setA (RS.setA σ 21 p op) 22 p x) 23 p 0).a 23 j = σ.a 23 j := fun σ => (setA_ne hj).trans (by rw [setA_nk (show (23 : Nat) ≠ 22 by decide), setA_nk (show (23 : Nat) ≠ 21 by decide)])
        rw [z, z, h]
    · rw [setA_nk k3, setA_nk k3, setA_nk hk, setA_nk hk]
      by_cases k1 : k = 21
      · subst k1
        by_cases hj : j = p
        · rw [hj, setA_at, setA_at]
        · rw [setA_ne hj, setA_ne hj, h]
      · rw [setA_nk k1, setA_nk k1, h]
  have eqB : ∀ (σ : RS) (w : Int32), (RS.setI (RS.setA (RS.setA (RS.setA σ 21 p op) 22 p x) 23 p 0) 20 w).a 22 p = x ∧ ∀ j : Nat, ¬ j = p → (RS.setI (RS.setA (RS.setA (RS.setA σ 21 p op) 22 p x) 23 p 0) 20 w).a 22 j = σ.a 22 j := fun σ w => by
    refine ⟨?_, fun j hj => ?_⟩
    · show (RS.setA (RS.setA (RS.setA σ 21 p op) 22 p x) 23 p 0).a 22 p = x
      rw [setA_nk (by decide), setA_at]
    · show (RS.setA (RS.setA (RS.setA σ 21 p op) 22 p x) 23 p 0).a 22 j = _
      rw [setA_nk (by decide), setA_ne hj, setA_nk (by decide)]
  rw [em s1 (by rw [a3])] at hy
  have hy' := Option.some.inj hy
  have yi : ∀ k : Nat, k ≠ 20 → y.2.i k = s.i k := by
    rw [← hy']
    intro k hk
    exact (if_neg hk).trans (congrFun a3 k)
  have y20 : y.2.i 20 = s.i 20 + 1 := by
    rw [← hy']
    rfl
  have y22 : y.2.a 22 p = x ∧ ∀ j : Nat, ¬ j = p → y.2.a 22 j = s1.a 22 j := by
    rw [← hy']
    exact eqB s1 _
  have ya : ∀ k : Nat, ¬ (21 ≤ k ∧ k ≤ 23) → y.2.a k = s.a k := by
    rw [← hy']
    intro k hk
    show (RS.setA (RS.setA (RS.setA s1 21 p op) 22 p x) 23 p 0).a k = s.a k
    rw [setA_nk (by omega), setA_nk (by omega), setA_nk (by omega)]
    exact a6 k (by omega)
  have yA : ∀ τ : RS, (∀ k : Nat, k ≠ 22 → τ.a k = s.a k) → ∀ k : Nat, k ≠ 22 → (RS.setI (RS.setA (RS.setA (RS.setA τ 21 p op) 22 p x) 23 p 0) 20 (s.i 20 + 1)).a k = y.2.a k := by
    rw [← hy']
    intro τ h k hk
    exact eqA τ s1 _ k hk ((h k hk).trans (a6 k hk).symm)
  clear hy hy' eqA
  rw [ya pf (by omega), ya 48 (by omega), y20] at hp2
  obtain ⟨st, hst⟩ : ∃ n : Nat, n = (s.a pf T).toNatClampNeg := ⟨_, rfl⟩
  rw [← hst] at hp2 n67 s67 ⊢
  obtain ⟨σ, hσ⟩ : ∃ z, z = RS.setA y.2 22 st (s.i 20 + 1) := ⟨_, rfl⟩
  rw [← hσ] at hp2
  have si : σ.i = y.2.i := by rw [hσ]; rfl
  have sa : ∀ k : Nat, k ≠ 22 → σ.a k = y.2.a k := by rw [hσ]; exact fun k hk => setA_nk hk
  have ss : σ.a 22 st = s.i 20 + 1 := by rw [hσ]; exact setA_at
  have sn : ∀ j : Nat, ¬ j = st → σ.a 22 j = y.2.a 22 j := by rw [hσ]; exact fun j hj => setA_ne hj
  clear hσ
  have cl : ∀ (j : Nat) (z : Nat × Bool), col j = some z → ¬ j = st ∧ ¬ j = p := fun j z hz => by
    refine ⟨fun e => ?_, fun e => ?_⟩
    · rw [e, n67] at hz
      cases hz
    · have := (hc.1 j z hz).2
      omega
  obtain ⟨l1, b1, b2, ⟨b3, b4, b5, b6⟩, b7, b8⟩ := pt_l (P := fun k => col k = some (g, true)) (s := s) (fun k hk => hc.2.1 k _ hk) N σ q (s.i 20 + 1) (s.a 48 g) (fun j pj _ => by
    obtain ⟨c1, c2⟩ := cl j _ pj
    rw [sn j c1, y22.2 j c2, a8 j (fun z => by
      have z1 := a2 j z
      rw [pj] at z1
      cases z1)]) h48 hp2
  obtain ⟨u, hu⟩ : ∃ u : RS, u = (s.i, s.l, va_up s.a 22 (fun j => if j = p then s.a 22 j else q.a 22 j), s.b) := ⟨_, rfl⟩
  have ui : u.i = s.i := by rw [hu]; rfl
  have ua : ∀ k : Nat, k ≠ 22 → u.a k = s.a k := by
    rw [hu]
    intro k hk
    exact if_neg hk
  have u22 : ∀ j : Nat, ¬ j = p → u.a 22 j = q.a 22 j := by
    rw [hu]
    intro j hj
    exact if_neg hj
  have u2p : u.a 22 p = s.a 22 p := by
    rw [hu]
    exact if_pos rfl
  clear hu
  have stp : ¬ st = p := by omega
  have stl : ¬ st ∈ l1 := fun z => (cl st _ (b2 st z).1).1 rfl
  have pl1 : ¬ p ∈ l1 := fun z => (cl p _ (b2 p z).1).2 rfl
  refine ⟨l1, l2, u, ⟨b1, a1⟩, ⟨ui, ua⟩, fun j hj => ?_, fun j hj => ?_, ?_, fun j n1 n2 n3 => ?_, fun u' e20 eA => ?_, ?_, fun k hk => ?_, fun k hk => ?_⟩
  · rw [u22 j (cl j _ (b2 j hj).1).2]
    exact b7 j hj
  · obtain ⟨c1, c2⟩ := cl j _ (a2 j hj)
    rw [u22 j c2, b8 j (fun z => by
      have z1 := (b2 j z).1
      have z2 := a2 j hj
      rw [z2] at z1
      cases z1), sn j c1, y22.2 j c2]
    exact a7 j hj
  · rw [u22 st stp, b8 st stl]
    exact ss
  · by_cases hj : j = p
    · rw [hj]
      exact u2p
    · rw [u22 j hj, b8 j n1, sn j n3, y22.2 j hj]
      exact a8 j n2
  · refine ⟨_, em u' (by rw [e20, ui]), ?_, ?_, fun k hk => if_neg hk⟩
    · funext k
      by_cases k2 : k = 22
      · subst k2
        funext j
        obtain ⟨z1, z2⟩ := eqB u' (s.i 20 + 1)
        by_cases hj : j = p
        · rw [hj]
          refine z1.trans ?_
          rw [b8 p pl1, sn p (fun z => stp z.symm)]
          exact y22.1.symm
        · refine (z2 j hj).trans ?_
          rw [eA]
          exact u22 j hj
      · refine (yA u' (fun k hk => by rw [eA]; exact ua k hk) k k2).trans ?_
        rw [b6 k k2, sa k k2]
    · rw [b3, si, y20]
      rfl
  · rw [b3, si]
    exact y20
  · rw [b3, si]
    exact yi k hk
  · rw [b6 k (by omega), sa k (by omega)]
    exact ya k hk
/-- what is known behind a loop's jump back -/
def KLP (U : RS) (r : RVW) (S : CS) (s : RS) (vb vc vs w x : Int32) (pc pr : Nat) : JKT := fun FC SF nm X ω j Z => ((cTg SF (r.1 9)).toInt = ((pcC S + 1 : Nat) : Int) ∧ PQX SF U (pcC S) (pcR s) ∧ (SF.a 15 (pcC S) = 30 ∧ SF.a 16 (pcC S) = w) ∧ (U.a 21 (pcR s) = 15 ∧ U.a 22 (pcR s) = x) ∧ pc = pcC S + 1 ∧ pr = pcR s + 1) ∧ KCL U r S s vb vc vs FC SF nm X ω j Z
theorem JRG.lop {N : Nat} {A : JBA} {U : RS} {B : CS} {b : RS} {V : List RVW} {S : CS} {s u : RS} {r : RVW} {vb vc vs w x : Int32} {e : Int} {p36 p41 : Unit × CS} {z : Int32 × RS} (j0 : JRG A U B b V u [tv (r.1 9)] (KCL U r S s vb vc vs) (-1) e S u) (pr : pcR u = pcR s) (e36 : f_X0_add N S 30 w = some p36) (h44 : (S.i 44).toInt ≤ 900) (hz : f_X12_emit N u 15 x = some z) (h20 : 0 ≤ (u.i 20).toInt ∧ (u.i 20).toInt < 3000) (e41 : f_X0_aim N p36.2 (r.1 9) = some p41) (he : e ≤ 100) : JRG A U B b V u [] (KLP U r S s vb vc vs w x (pcC p41.2) (pcR z.2)) 0 e p41.2 z.2 := by
  have pc : pcC p41.2 = pcC p36.2 := by unfold pcC f_X0_aim at *; cases e41; rfl
  have g44 : (p36.2.i 44).toInt ≤ 900 := by
    unfold f_X0_add at e36
    cases e36
    exact h44
  have j1 := j0.one (K' := fun FC SF nm X ω j Z => (PQX SF U (pcC S) (pcR s) ∧ (SF.a 15 (pcC S) = 30 ∧ SF.a 16 (pcC S) = w) ∧ (U.a 21 (pcR s) = 15 ∧ U.a 22 (pcR s) = x) ∧ pcC p36.2 = pcC S + 1 ∧ pcR z.2 = pcR s + 1) ∧ KCL U r S s vb vc vs FC SF nm X ω j Z) e36 h44 (by decide) hz h20 (fun FC SF nm X ω j Z q a1 a2 b1 b2 _ c1 c2 _ _ _ _ _ _ k => by
    rw [pr] at q b1 b2 c2
    exact ⟨⟨q, ⟨a1, a2⟩, ⟨b1, b2⟩, c1, c2⟩, k⟩)
  have j2 := JRG.aim (W1 := []) (W2 := []) (K' := KLP U r S s vb vc vs w x (pcC p41.2) (pcR z.2)) j1 e41 g44 he (fun FC SF nm X ω j Z h k => by
    obtain ⟨⟨q, a, b', c1, c2⟩, k⟩ := k
    exact ⟨⟨by rw [h, c1], q, a, b', by rw [pc, c1], c2⟩, k⟩)
  exact j2
/-- the head of a closing loop is good -/
theorem lop_fin {FC : Nat → Prop} {SF : CS} {U : RS} {nm : Nat → Nat → Prop} {X : Als} {ω : Nat} {j jh : JCT} {Z : Prop} {r : RVW} {S : CS} {s : RS} {vb vc x y : Int32} {G : GHT} {p0 q0 : Nat} (ct : (cTg SF x).toInt = (p0 : Int)) (l0 : p0 ≤ 1200) (cq : y.toInt = (q0 : Int)) (hY : ∀ Y : Als, S01 (GU FC SF U nm X) (GU FC SF U nm Y) → JRH FC SF U nm Y G noc noy ω r j → (isGo r.v → JGV FC SF U nm Y G ω r j s vb vc) → JCU FC SF U nm Y G ω r j S s → JHH FC SF U nm Y G ω r j) (hX : JRH FC SF U nm X G noc noy ω r j → (isGo r.v → JGV FC SF U nm X G ω r j s vb vc) → JCU FC SF U nm X G ω r j S s → Z) (h5 : ∀ Y : Als, JHH FC SF U nm Y G ω r j → HE5 FC SF U nm Y x y ω jh) (mk : ∀ Y : Als, S01 (GU FC SF U nm X) (GU FC SF U nm Y) → GU2 FC SF U nm Y p0 q0 jh.h (ω + jh.l + 1264 - p0) jh.c → JRH FC SF U nm Y G noc noy ω r j ∧ (isGo r.v → JGV FC SF U nm Y G ω r j s vb vc) ∧ JCU FC SF U nm Y G ω r j S s) : Z := by
  obtain ⟨P, hP⟩ : ∃ P : Als, P = fun p q h w g c => p = p0 ∧ q = q0 ∧ h = jh.h ∧ w = ω + jh.l + 1264 - p0 ∧ c = jh.c ∧ g ≤ 1 := ⟨_, rfl⟩
  have P1 : ∀ g : Nat, g ≤ 1 → P p0 q0 jh.h (ω + jh.l + 1264 - p0) g jh.c := fun g hg => by
    rw [hP]
    exact ⟨rfl, rfl, rfl, rfl, rfl, hg⟩
  have P2 : ∀ (p q h w g : Nat) (c : List Ent), P p q h w g c → p = p0 ∧ q = q0 ∧ h = jh.h ∧ w = ω + jh.l + 1264 - p0 ∧ c = jh.c ∧ g ≤ 1 := by
    rw [hP]
    exact fun _ _ _ _ _ _ z => z
  clear hP
  have ac := gu_acc2 (FC := FC) (s0 := SF) (r0 := U) (nm := nm) (X := X) (P := P) (fun p q h w g c z => (P2 p q h w g c z).2.2.2.2.2) (fun p q h w g c z => by
    obtain ⟨rfl, rfl, rfl, rfl, rfl, -⟩ := P2 p q h w g c z
    have sy : S01 (GU FC SF U nm X) (GU FC SF U nm (UN2 (G01 FC SF U nm X) P)) := fun _ _ _ _ _ _ l a => G01.up a l
    obtain ⟨a1, a2, a3⟩ := mk (UN2 (G01 FC SF U nm X) P) sy ⟨G01.new (P1 0 (by omega)), G01.new (P1 1 (by omega))⟩
    obtain ⟨p', q', e1, e2, -, e4⟩ := h5 _ (hY _ sy a1 a2 a3)
    have z1 : p' = p := by omega
    have z2 : q' = q := by omega
    rw [z1, z2] at e4
    exact e4)
  obtain ⟨a1, a2, a3⟩ := mk X (fun _ _ _ _ _ _ _ a => a) ⟨ac _ _ _ _ _ _ (P1 0 (by omega)), ac _ _ _ _ _ _ (P1 1 (by omega))⟩
  exact hX a1 a2 a3
set_option maxHeartbeats 1000000 in
/-- a while or a for closes: its code -/
theorem lp_code {N : Nat} {Aj : JBA} {d : Int32} {B : CS} {b : RS} {t0 hp : Nat} {L : List CEL} {x : Int} {S : CS} {s s1 q U : RS} {y : Int32 × RS} {c1 c : CEL} {p36 p41 : Unit × CS} (mA : JBM U Aj) (hC : COR d B b t0 (c1 :: c :: L) x S s) (h57 : S.o c1.2.1 0 = 205 ∨ S.o c1.2.1 0 = 207) (jw : JRW Aj U B b (vws S s (c1 :: c :: L)) S s) (h1 : 1 ≤ phI s) (hp1 : f_X12_patch N s (s.a 49 (ceG c1)) (s.a hp (ceT c1)) = some s1) (hy : f_X12_emit N s1 15 (s.a hp (ceT c1)) = some y) (hp2 : f_X12_patch N (RS.setA y.2 22 (y.2.a 67 (ceT c1)).toNatClampNeg (y.2.i 20)) (y.2.a 48 (ceG c1)) (y.2.i 20) = some q) (e36 : f_X0_add N S 30 (S.o c1.2.1 10) = some p36) (e41 : f_X0_aim N p36.2 (S.o c1.2.1 9) = some p41) : ∃ (u : RS) (ee : Int), S22 s u ∧ (ee ≤ 0 ∨ (ee ≤ 1 ∧ ¬ ALN (S.i 43))) ∧ JRG Aj U B b (vws S s (c :: L)) u [] (KLP U (vw S s c1) S s (s.i 20 + 1) (s.a hp (ceT c1)) (s.i 20 + 1) (S.o c1.2.1 10) (s.a hp (ceT c1)) (pcC p41.2) (pcR q)) 0 ee p41.2 q ∧ (q.i 20 = s.i 20 + 1 ∧ (∀ k : Nat, k ≠ 20 → q.i k = s.i k) ∧ ∀ k : Nat, ¬ (21 ≤ k ∧ k ≤ 23) → q.a k = s.a k) ∧ p41.2.i 43 = S.i 43 := by
  have hv := hC.1
  have go : isGo (S.o c1.2.1 0) := by
    rcases h57 with z | z
    · exact Or.inr (Or.inr (Or.inl z))
    · exact Or.inr (Or.inr (Or.inr (Or.inr (Or.inl z))))
  have lo : isLo (S.o c1.2.1 0) := by
    rcases h57 with z | z
    · exact Or.inl z
    · exact Or.inr (Or.inr (Or.inl z))
  obtain ⟨-, -, b0, col, hc⟩ := id hC.2.2.2.2.2.2.2.2.2.2
  obtain ⟨hx48, hx49⟩ := hc.2.2.1 c1 List.mem_cons_self go
  have pl7 := hc.2.2.2.2.2.2 c1 List.mem_cons_self (s.a 67 (ceT c1)).toInt (Or.inr (Or.inr ⟨h57, rfl⟩))
  have c7 := clampI (show 0 ≤ (s.a 67 (ceT c1)).toInt by have := pl7.1; omega)
  have p20 := hv.p20
  obtain ⟨l1, l2, u, ⟨k1, k2⟩, e22, x1, x2, x3, x4, x5, q20, qi, qa⟩ := lp_alt (pf := 67) (T := ceT c1) hc hx48 hx49 (Or.inr rfl) pl7.2.2.1 (by rw [c7]; exact pl7.2.1) ⟨p20.1, by omega⟩ hp1 hy hp2
  obtain ⟨z, hz, za, z20, zi⟩ := x5 u rfl rfl
  have hr0 : (vw S s c1).v = S.o c1.2.1 0 := rfl
  have nty : ¬ isTy (vw S s c1).v := fun z => by
    rw [hr0] at z
    unfold isTy at z
    rcases h57 with y | y <;> rw [y] at z <;> revert z <;> decide
  have r67 : (vw S s c1).2.1 67 = s.a 67 (ceT c1) := (vw_at (k := 67) ⟨by decide, by decide⟩)
  have si : ∀ k : Nat, rsite (vw S s c1) k ↔ (k : Int) = (s.a 67 (ceT c1)).toInt := fun k => by
    unfold rsite
    rw [hr0, r67]
    refine ⟨fun z => ?_, fun z => Or.inr (Or.inr (Or.inl ⟨h57, z⟩))⟩
    rcases z with ⟨z, -⟩ | ⟨z, -⟩ | ⟨-, z⟩ | ⟨z, -⟩
    · rcases h57 with y | y <;> rw [y] at z <;> exact absurd z (by decide)
    · rcases h57 with y | y <;> rw [y] at z <;> exact absurd z (by decide)
    · exact z
    · rcases h57 with y | y <;> rw [y] at z <;> exact absurd z (by decide)
  have gis := hC.gis
  have h44 : (S.i 44).toInt ≤ 900 := by
    rw [hv.p44.1]
    exact (i11_hi hv).2
  obtain ⟨ee, he1, he2⟩ := clo_e (S.i 43)
  have rt : rtgs (vw S s c1) = [(vw S s c1).1 9] := by
    unfold rtgs
    rw [hr0]
    rcases h57 with y | y
    · rw [y, if_neg (by decide), if_pos (by decide)]
    · rw [y, if_neg (by decide), if_pos (by decide)]
  have j0 := JRW.clo (V := vws S s (c :: L)) (r := vw S s c1) (u := u) (u' := u) (S' := S) (l1 := l1) (l2 := l2) (vb := s.i 20 + 1) (vc := s.a hp (ceT c1)) (vs := s.i 20 + 1) (e := ee) (dr := 1) jw (fun z => z.c0 (by rw [hr0]; rcases h57 with y | y <;> rw [y] <;> decide) (NK.eq rfl rfl (by rw [e22.1]) (by rw [e22.1]))) h44 mA (vws.pl hC) (fun _ y hy gy e => by have := gis y hy gy; have e' : y.2.2.2 = ceG c1 := e; omega) nty (by rw [hr0]; rcases h57 with y | y <;> rw [y] <;> decide) (fun _ => ⟨k1, fun _ => k2⟩) e22 (fun _ j hj => x1 j hj) (fun _ j hj => x2 j hj) (fun j z => by
    have z1 := (si j).mp z
    have z2 : j = (s.a 67 (ceT c1)).toNatClampNeg := by omega
    exact ⟨by rw [z2]; exact x3, by have := pl7.1; omega⟩) (fun j n1 n2 n3 => x4 j (n1 go) (n2 lo) (fun z2 => n3 ((si j).mpr (by rw [z2]; exact c7)))) (D38.rf _) (D52.rf _) ⟨Or.inl rfl, rfl, rfl, rfl⟩ (fun _ _ _ => rfl) (clo_nm (by rw [hr0]; rcases h57 with y | y <;> rw [y] <;> decide) nty (by rw [hr0]; rcases h57 with y | y <;> rw [y] <;> decide) e22.1 (e22.2 40 (by decide))) (fun G => by
      show (1 : Int) ≤ dbr (G (vw S s c1).2.2.1) (S.o c1.2.1 0)
      rcases h57 with y | y <;> rw [y] <;> exact Int.le_refl _) he1
  rw [rt] at j0
  have j1 := j0.lop (by unfold pcR; rw [e22.1]) e36 h44 hz (by rw [e22.1]; exact ⟨p20.1, by omega⟩) e41 (by rcases he1 with z | ⟨z, -⟩ <;> omega)
  have qz : ∀ k : Nat, q.i k = z.2.i k := fun k => by
    by_cases hk : k = 20
    · rw [hk, z20]
    · rw [qi k hk, zi k hk, e22.1]
  have pz : pcR z.2 = pcR q := by unfold pcR; rw [z20]
  rw [pz] at j1
  refine ⟨u, ee, e22, he2, j1.se (by
    unfold qe
    rw [← za, qz 20, qz 24, qz 29, qz 33, qz 42, qz 52]) ⟨qz 38, fun j _ => by rw [za]⟩, ⟨q20, qi, qa⟩, ?_⟩
  unfold f_X0_aim f_X0_add at *
  cases e36
  cases e41
  rfl
set_option maxHeartbeats 2000000 in
theorem en_while {N : Nat} {E1 : CS → Option (Unit × CS)} {E2 : CS → Option (Int32 × CS)} {d : Int32} {B : CS} {b : RS} {t0 n : Nat} {L : List CEL} {x : Int} {S : CS} {s U : RS} {c1 c : CEL} {R : Unit × CS} {Aj : JBA} (mA : JBM U Aj) (hC : COR d B b t0 (c1 :: c :: L) x S s) (tp : TOP S s c1) (hM : MEN c1 S s) (h205 : S.o c1.2.1 0 = 205) (bz : BAZ B b (c1 :: c :: L)) (hT : t0 ≤ ceT c1) (e : f_X7_endBody N E1 E2 S c1.2.1 = some R) (g : f_X12_parse_10 N n s = some U) : ∃ (m : Nat) (u : RS), f_X12_parse_10 N m u = some U ∧ POPD d B b t0 c L R.2 u ∧ JTR Aj U B b (c1 :: c :: L) S s (vws R.2 u (c :: L)) R.2 u := by
  obtain ⟨one, o5, ts, h75, hm⟩ := hM
  obtain ⟨m1, e1, k1, m2, e2, k2, cst⟩ := STK.mem _ _ _ _ hC.2.1 c1 List.mem_cons_self
  obtain ⟨f1, f2, f3, f4, f5⟩ := cst.2.2.1.2.2.2.2.2.2.1 h205
  have hv := hC.1
  have go : isGo (S.o c1.2.1 0) := Or.inr (Or.inr (Or.inl h205))
  obtain ⟨m2, V, hV, g2⟩ := rl_10 g ts hv.1.2.1 f1
  unfold f_X12_whiles at hV
  obtain ⟨hib, hV⟩ := hf_ite hV
  have t9 : ceT c1 < 1000 := by
    have h2 : (s.i 63).toInt = (ceT c1 : Int) := ts
    have := hib.2
    omega
  have g68 : (s.a 68 (ceT c1)).toNatClampNeg = ceG c1 := by
    show (s.a 68 (ceT c1)).toInt.toNat = ceG c1
    omega
  rw [tp_nat ts, f2, if_neg (by decide), if_neg (by decide), g68] at hV
  obtain ⟨-, hV⟩ := hf_ite hV
  obtain ⟨s1, hp1, hV⟩ := hf_bind hV
  obtain ⟨y, hy, hV⟩ := hf_bind hV
  obtain ⟨-, hV⟩ := hf_ite hV
  obtain ⟨q, hp2, hV⟩ := hf_bind hV
  have hp2z := hp2
  -- the row goes
  obtain ⟨hD, inj, ord, lk, lw⟩ := hC.drop (by rw [h205]; unfold isTy; decide) (by rw [h205]; decide) (by rw [h205]; rfl) (by rw [h205]; rfl)
  have ph := hC.2.2.2.2.2.2.1.2.1
  have phe : PDM S (c1 :: c :: L) = 1 + PDM S (c :: L) := by
    show dbt (S.o c1.2.1 0) + PDM S (c :: L) = _
    rw [h205]
    rfl
  have pd0 := (PDM.ge S (c :: L)).1
  obtain ⟨-, b30, b0, col, hc⟩ := id hC.2.2.2.2.2.2.2.2.2.2
  obtain ⟨hx48, hx49⟩ := hc.2.2.1 c1 List.mem_cons_self go
  have e22a := pt_in (F := fun k => col k = some (ceG c1, false)) (κ := (ceG c1, false)) hc (fun k hk => hk) hx49 hp1
  obtain ⟨hE1, hc1⟩ := hD.e22 (hc.drop inj) (e22a.mono (fun k hk => (hc.fre b0).1 k false hk))
  have t1 : tpI s1 = (ceT c1 : Int) := by
    show (s1.i 63).toInt = _
    rw [e22a.1]
    exact ts
  have ph1 : phI s1 = phI s := by
    unfold phI
    rw [e22a.1]
  obtain ⟨n1, n2, n3, n4, n5, n6, n7, n8, n9, n19, -⟩ := y_emit hE1.1 t1 (by omega) hy
  have hin0 := hC.inl tp (T := ceT c1 + wid (S.o c1.2.1 0)) rfl
  have hin1 : INL S s1 (ceT c1) (c :: L) := by
    have z := STK.inl L c _ _ _ hE1.2.1 (by have := tp.1; have := lk.1; omega) (by rw [e22a.1]; have := tp.2.1; have := lk.2.2.1; omega) (by rw [e22a.1]; have := tp.2.2; have := lk.2.2.2.1; omega)
    rw [← lk.2.1] at z
    exact z
  have hE2 := hE1.mv3 hin1 hT n1 (n3 _) n4 ⟨by rw [n8]; exact Int.le_refl _, by omega, by rw [n9]; exact Int.le_refl _, by rw [n19]⟩
  have hc2 := hc1.mv b0 hin1 (CKZ.rf S) (n3 _) n4.1.r n4.2
  have fr := n3 (ceT c1 + 1) (ceT c1) (by omega)
  have y67 : y.2.a 67 (ceT c1) = s.a 67 (ceT c1) := by
    rw [fr.2.2.2.1, e22a.2.2.2.1 67 (by decide)]
  have pl : PLF S s c1 (s.a 67 (ceT c1)).toInt := Or.inr (Or.inr ⟨Or.inl h205, rfl⟩)
  have e66 : ∀ z ∈ c :: L, y.2.a 66 (ceT z) = s.a 66 (ceT z) := fun z hz => by
    have a := (hin1 z hz).2.2.1
    have b := wid1 (S.o z.2.1 0)
    rw [(n3 (ceT c1) (ceT z) (by omega)).2.2.1, e22a.2.2.2.1 66 (by decide)]
  rw [y67] at hp2
  have f67 : FRE S y.2 (c :: L) (cdr (ceG c1) col) (b.i 20).toInt (s.a 67 (ceT c1)).toNatClampNeg := ((hc.fre b0).2 _ pl).mv e66
  obtain ⟨s3, hs3⟩ : ∃ s3, s3 = RS.setA y.2 22 (s.a 67 (ceT c1)).toNatClampNeg (y.2.i 20) := ⟨_, rfl⟩
  have e22b : E22 (FRE S y.2 (c :: L) (cdr (ceG c1) col) (b.i 20).toInt) y.2 s3 := by
    rw [hs3]
    exact E22.set f67
  have a22 : ∀ k : Nat, k ≠ (s.a 67 (ceT c1)).toNatClampNeg → s3.a 22 k = y.2.a 22 k := fun k hk => by
    rw [hs3]
    exact setA_ne hk
  rw [← hs3] at hp2
  clear hs3
  obtain ⟨hE3, hc3⟩ := hE2.e22 hc2 e22b
  have e663 : ∀ z ∈ c :: L, s3.a 66 (ceT z) = s.a 66 (ceT z) := fun z hz => by
    rw [e22b.2.2.2.1 66 (by decide)]
    exact e66 z hz
  have n67 := (hc.2.2.2.2.2.2 c1 List.mem_cons_self _ pl).2.2.1
  have gi : (ceG c1 : Int) < (s1.i 43).toInt := by
    rw [e22a.1]
    have := tp.2.1
    have := nGo1 go
    omega
  have y48 : y.2.a 48 (ceG c1) = s.a 48 (ceG c1) ∧ y.2.a 50 (ceG c1) = s.a 50 (ceG c1) ∧ y.2.a 44 (ceG c1) = s.a 44 (ceG c1) := by
    have z := n4.1.r.2.1 (ceG c1) gi
    rw [z.2.2.2.2.2.2.1, z.2.2.2.2.1, z.1, e22a.2.2.2.1 48 (by decide), e22a.2.2.2.1 50 (by decide), e22a.2.2.2.1 44 (by decide)]
    exact ⟨rfl, rfl, rfl⟩
  rw [y48.1] at hp2
  have e22c : E22 (FRE S s3 (c :: L) (cdr (ceG c1) col) (b.i 20).toInt) s3 q := by
    refine pt_e22 (κ := (ceG c1, true)) (col := col) (fun k hk => ((hc.fre b0).1 k true hk).mv e663) N (s.i 20).toInt.toNat s3 q (y.2.i 20) (s.a 48 (ceG c1)) (fun k hk _ => ?_) ?_ hp2
    · have k20 := (hc.1 k _ hk).2
      have nk : k ≠ (s.a 67 (ceT c1)).toNatClampNeg := fun z => by
        have z2 : col k = none := by
          rw [z]
          exact n67
        rw [z2] at hk
        cases hk
      rw [a22 k nk, n4.2.2 k (by rw [e22a.1]; exact k20), e22a.2.2.2.2 k (fun z => by
        have z' : col k = some (ceG c1, false) := z
        rw [hk] at z'
        have z2 : true = false := congrArg Prod.snd (Option.some.inj z')
        exact absurd z2 (by decide))]
      exact hc.2.1 k _ hk
    · rcases hx48 with z | ⟨j, j1, j2⟩
      · exact Or.inl z
      · have := (hc.1 j _ j2).2
        exact Or.inr ⟨j, j1, by omega, j2⟩
  obtain ⟨hE4, -⟩ := hE3.e22 hc3 e22c
  have qi : q.i = y.2.i := e22c.1.trans e22b.1
  have qa : ∀ k : Nat, k ≠ 22 → q.a k = y.2.a k := fun k hk => (e22c.2.2.2.1 k hk).trans (e22b.2.2.2.1 k hk)
  have q71 : q.a 71 (ceT c1) = S.o c1.2.1 7 := by
    rw [qa 71 (by decide), fr.2.2.2.2.2.2.2.1, e22a.2.2.2.1 71 (by decide)]
    exact f4
  have q50 : q.a 50 (ceG c1) = s.a 50 (ceG c1) := by
    rw [qa 50 (by decide)]
    exact y48.2.1
  have q43 : q.i 43 = s.i 43 := by
    rw [qi, n4.1.1.2.2.2.2.1, e22a.1]
  have q56 : q.i 56 = s.i 56 := by
    rw [qi, n4.1.1.2.2.2.2.2.2.1, e22a.1]
  -- the class
  unfold f_X7_endBody at e
  obtain ⟨-, e⟩ := hf_ite e
  rw [if_neg (by rw [h205]; decide), if_neg (by rw [h205]; decide), if_neg (by rw [h205]; decide), if_neg (by rw [h205]; decide)] at e
  obtain ⟨p36, e36, e⟩ := hf_bind e
  obtain ⟨-, e⟩ := hf_ite e
  obtain ⟨p41, e41, e⟩ := hf_bind e
  obtain ⟨-, e⟩ := hf_ite e
  obtain ⟨a1, a2, -, -⟩ := y_add hv e36
  obtain ⟨b1, b2, -, -⟩ := y_aim a1 e41
  obtain ⟨a1q, -, -, -⟩ := y_add hE4.1 e36
  obtain ⟨b1q, -, -, -⟩ := y_aim a1q e41
  have ck := a2.tr b2
  have hCp := hC.cx hin0 (by omega) b1 ck
  have eo1 := (hin0.o ck.z c1 List.mem_cons_self).1
  have fin : ∃ v : Int32, (v = 0 ∨ v = 1) ∧ (S.o c1.2.1 7 = 0 → v = 1) ∧ (s.a 50 (ceG c1) = 1 → v = 1) ∧ f_X12_over N (RS.setI q 43 (q.i 43 - 1)) v = some V ∧ f_X7_endBody_193 N E1 E2 (CS.setI p41.2 36 v) c1.2.1 = some R := by
    rw [q71, q50] at hV
    rw [eo1] at e
    by_cases z : S.o c1.2.1 7 = 0
    · rw [if_pos z] at hV e
      rw [ob_id] at hV
      exact ⟨1, Or.inr rfl, fun _ => rfl, fun _ => rfl, hV, e⟩
    · rw [if_neg z] at hV e
      obtain ⟨p47, e47, e⟩ := hf_bind e
      obtain ⟨y1, y2⟩ := y_gone hCp (by rw [eo1]; exact go) (Or.inl ⟨rfl, rfl⟩) e47
      have y3 : p47.1 = s.a 50 (ceG c1) := y2.trans (if_pos rfl)
      rw [y1, y3] at e
      by_cases k : s.a 50 (ceG c1) = 0
      · rw [if_pos k] at hV e
        rw [ob_id] at hV
        exact ⟨0, Or.inl rfl, fun y => absurd y z, fun y => by rw [k] at y; exact absurd y (by decide), hV, e⟩
      · rw [if_neg k] at hV e
        rw [ob_id] at hV
        exact ⟨1, Or.inr rfl, fun _ => rfl, fun _ => rfl, hV, e⟩
  obtain ⟨v, hv1, va, vf, ho, e193⟩ := fin
  have g43 : (q.i 43 - 1).toInt = (q.i 43).toInt - 1 := by
    have e1 : (1 : Int32).toInt = 1 := by decide
    have hi := Int32.toInt_lt (q.i 43)
    have := tp.2.1
    rw [← q43] at this
    rw [toInt_sub] <;> rw [e1] <;> omega
  have tpq : TOP S q c1 := ⟨tp.1, by rw [q43]; exact tp.2.1, by rw [q56]; exact tp.2.2⟩
  have lwq : LOW S q c := (((lw.e22 e22a).mv rfl (n3 (ceT c1)) (by rw [lk.2.1]; exact Nat.le_refl _)).e22 e22b).e22 e22c
  refine ⟨m2, V, g2, en_pop hE4 eo1 tpq (by show (q.i 63).toInt = _; rw [qi]; exact n2) hm one (by rw [h205]; decide) (by rw [h205]; decide) (fun _ => by rw [qa 44 (by decide), y48.2.2, f5]; decide) bz hT t9 lk lwq b1q ck hv1 ho ⟨fun k hk => if_neg hk, rfl, rfl, rfl⟩ (by rw [nGo1 go]; exact g43) e193, fun _ jw => ?_⟩
  -- the code
  have s66 : s1.a 66 (ceT c1) = s.a 66 (ceT c1) := by rw [e22a.2.2.2.1 66 (by decide)]
  rw [s66] at hy
  have eo36 := (hin0.o a2.z c1 List.mem_cons_self).1
  rw [eo36] at e41
  obtain ⟨u, ee, e22, he2, j1, ⟨q20, qi', qa'⟩, p43⟩ := lp_code (hp := 66) mA hC (Or.inl h205) jw (by omega) hp1 hy hp2z e36 e41
  have hr0 : (vw S s c1).v = 205 := h205
  have gis := hC.gis
  have t43 := tp.2.1
  obtain ⟨jr, oR, aV⟩ := j1.pop1 (n := c.1) (q' := RS.setI q 43 (q.i 43 - 1)) (by omega) (by rw [p43]; exact he2) (by rw [ck.1.2.2.2.2.1]; have := tp.1; have := lk.1; omega) e193 ⟨fun k _ hk => if_neg hk, rfl⟩ (Int.le_refl _) ho (fun y hy gy => by
    have := gis y hy gy
    show ((y.2.2.2 : Nat) : Int) < (q.i 43 - 1).toInt
    rw [g43, q43]
    have := nGo1 go
    omega) (fun k k1 k2 => by rw [qa' k (by omega), e22.2 k (by omega)]) (by rw [qi' 59 (by decide), e22.1]) (by rw [qi' 11 (by decide), e22.1]; exact Int.le_refl _) (by rw [qi' 19 (by decide), e22.1]; exact Int.le_refl _) (fun FC SF nm X ω j Z hω r12 hcc k cur => by
    obtain ⟨⟨ct, pq, ⟨s1', s2'⟩, ⟨u1', u2'⟩, pe1, pe2⟩, ⟨st, hd, rp, -⟩, G', -, hY, hX⟩ := k
    have p20 := hv.p20
    have p12 := pq.1
    have pS : (s.i 20 + 1).toInt = ((pcR s + 1 : Nat) : Int) := by
      have z1 : (s.i 20).toInt = ((pcR s : Nat) : Int) := (Int.toNat_of_nonneg p20.1).symm
      rw [ad1 p20.1 (by omega)]
      omega
    have r66 : (vw S s c1).2.1 66 = s.a 66 (ceT c1) := (vw_at (k := 66) ⟨by decide, by decide⟩)
    have r67 : (vw S s c1).2.1 67 = s.a 67 (ceT c1) := (vw_at (k := 67) ⟨by decide, by decide⟩)
    obtain ⟨p0, c0, l0, -⟩ := hd (S.o c1.2.1 10) (Or.inl ⟨Or.inl hr0, rfl⟩)
    have q66 := (rp go).1 (Or.inl hr0)
    rw [r66] at q66
    have cq : (s.a 66 (ceT c1)).toInt = (((s.a 66 (ceT c1)).toInt.toNat : Nat) : Int) := (Int.toNat_of_nonneg q66).symm
    have nty : ¬ isTy (vw S s c1).v := fun z => by
      rw [hr0] at z
      rcases z with z | z | z | z <;> exact absurd z (by decide)
    have en : ∀ (h l : Nat), jen G' ω (vw S s c1) h l = [] := fun h l => jen.no (by rw [hr0]; decide) nty (by rw [hr0]; decide)
    have bk : jbk G' ω (vw S s c1) j = j := if_neg (by rw [hr0]; decide)
    have cn : jcn G' ω (vw S s c1) j = j.up 1264 := by
      unfold jcn
      rw [if_neg (by rw [hr0]; decide), bk]
    rw [pe1, pe2] at cur
    refine lop_fin (jh := j) c0 l0 cq hY hX (fun Y h => by rw [← r66]; exact h.1 hr0) (fun Y sy hed => ⟨⟨fun z => absurd (hr0.symm.trans z) (by decide), fun z => absurd (hr0.symm.trans z) (by decide), fun _ => ⟨fun f0 => ?_, ⟨_, _, c0, by rw [r66]; exact cq, l0, hed⟩⟩, fun z => absurd (hr0.symm.trans z) (by decide), fun z => absurd (hr0.symm.trans z) (by decide), fun z => absurd (hr0.symm.trans z) (by decide), fun z => absurd (hr0.symm.trans z) (by decide), fun z => absurd z nty, fun _ => noc.gl⟩, fun _ => ⟨fun fl => ?_, fun _ _ => ?_⟩, fun h1 => ?_⟩)
    · have pl7 := (hc.2.2.2.2.2.2 c1 List.mem_cons_self (s.a 67 (ceT c1)).toInt pl).1
      have e9 := st (s.a 67 (ceT c1)).toNatClampNeg (Or.inr (Or.inr (Or.inl ⟨Or.inl hr0, by
        rw [r67]
        exact clampI (by omega)⟩)))
      refine ⟨_, _, ct, ?_, sy _ _ _ _ _ _ (Nat.zero_le _) (cur (va f0)).1⟩
      rw [r67, e9]
      exact pS
    · rw [bk]
      exact ⟨_, _, ct, pS, sy _ _ _ _ _ _ (Nat.zero_le _) (cur (vf fl)).1⟩
    · rw [cn]
      refine ⟨_, _, c0, cq, ?_⟩
      have z := hed.1
      rw [show ω + j.l + 1264 - p0 = ω + (j.up 1264).l - p0 by (show ω + j.l + 1264 - p0 = ω + (j.l + 1264) - p0; omega)] at z
      exact z
    · have jl : jlv (vw S s c1).v = 2528 := by rw [hr0]; rfl
      rw [en, jl]
      have z : ∀ g : Nat, GU FC SF U nm Y (pcC S) (pcR s) j.h (ω + (j.l + 2528) - pcC S) g j.c := fun g => gi_UJmp (pq.hc hcc) pq.2.1 ⟨s1', u1', p0, _, _, ⟨by rw [s2']; exact c0, by rw [u2']; exact cq⟩, by omega, hed.1⟩
      exact ⟨z 0, z 1⟩)
  rw [clo_veq hD tp lk (fun j _ => by rw [aV, qa' 40 (by omega)]) (fun y hy => by rw [oR]; exact (hin0.o ck.z y (List.mem_cons_of_mem _ hy)).1) (fun k t h1 h2 _ => by rw [aV, qa' k (by omega)])]
  exact jr
end
section
/-! both readers: ends of for -/
theorem e_193 {N n a : Nat} {E1 : CS → Option (Unit × CS)} {E2 : CS → Option (Int32 × CS)} {S : CS} {v : Int32} {R : Unit × CS} (h53 : (S.i 53).toInt = (n : Int) + 2) (e : f_X7_endBody_193 N E1 E2 (CS.setI S 36 v) a = some R) : (∀ k : Nat, k ≠ 36 → k ≠ 50 → k ≠ 53 → R.2.i k = S.i k) ∧ R.2.i 50 = S.o a 3 ∧ (R.2.i 53).toInt = (n : Int) + 1 ∧ R.2.i 36 = v ∧ (R.2.r = S.r ∧ R.2.o = S.o ∧ R.2.ol = S.ol ∧ R.2.a = S.a ∧ R.2.b = S.b ∧ R.2.l = S.l ∧ (R.2.hs = S.hs ∧ R.2.L = S.L ∧ R.2.k = S.k)) := by
  unfold f_X7_endBody_193 at e
  obtain ⟨-, e⟩ := hf_ite e
  obtain ⟨p14, e14z, e⟩ := hf_bind e
  have e14 : f_X6_pop N (CS.setI (CS.setI S 36 v) 50 (S.o a 3)) = some p14 := e14z
  have i53 : (CS.setI (CS.setI S 36 v) 50 (S.o a 3)).i 53 = S.i 53 := by
    rw [ci_ne _ _ _ (by decide), ci_ne _ _ _ (by decide)]
  obtain ⟨p1, p2⟩ := e_pop (n := n) (by rw [i53]; omega) e14
  have eR : R.2 = CS.setI (CS.setI (CS.setI S 36 v) 50 (S.o a 3)) 53 (S.i 53 - 1) := by
    rw [← Option.some.inj e, ← i53]
    exact p1
  rw [i53] at p2
  rw [eR]
  refine ⟨fun k h1 h2 h3 => ?_, ?_, ?_, ?_, ⟨rfl, rfl, rfl, rfl, rfl, rfl, rfl, rfl, rfl⟩⟩
  · rw [ci_ne _ _ _ h3, ci_ne _ _ _ h2, ci_ne _ _ _ h1]
  · rw [ci_ne _ _ _ (by decide), ci_at]
  · rw [ci_at]
    exact p2
  · rw [ci_ne _ _ _ (by decide), ci_ne _ _ _ (by decide), ci_at]
theorem FRB.all {T : Nat} {s u : RS} (h : FRB (T + 1) s u) : ∀ k : Nat, 64 ≤ k → k ≤ 73 → u.a k T = s.a k T := fun k h1 h2 => by
  obtain ⟨f0, f1, f2, f3, f4, f5, f6, f7, f8, f9, -⟩ := h T (by omega)
  have hk : k = 64 ∨ k = 65 ∨ k = 66 ∨ k = 67 ∨ k = 68 ∨ k = 69 ∨ k = 70 ∨ k = 71 ∨ k = 72 ∨ k = 73 := by omega
  rcases hk with h | h | h | h | h | h | h | h | h | h <;> rw [h]
  · exact f0
  · exact f1
  · exact f2
  · exact f3
  · exact f4
  · exact f5
  · exact f6
  · exact f7
  · exact f8
  · exact f9
set_option maxHeartbeats 2000000 in
/-- a loop's two chains are aimed, its jump back is laid -/
theorem lp_pt {N : Nat} {d : Int32} {B : CS} {b : RS} {t0 pf : Nat} {L : List CEL} {x : Int} {S : CS} {s s1 q : RS} {y : Int32 × RS} {c1 c : CEL} {w1 w2 w3 op : Int32} (hC : COR d B b t0 (c1 :: c :: L) x S s) (tp : TOP S s c1) (ts : tpI s = (ceT c1 : Int)) (hT : t0 ≤ ceT c1) (go : isGo (S.o c1.2.1 0)) (nt : ¬ isTy (S.o c1.2.1 0)) (ns : ¬ S.o c1.2.1 0 = 218) (nd : nDp (S.o c1.2.1 0) = 0) (ng : nSg (S.o c1.2.1 0) = 0) (hd1 : 1 ≤ dbt (S.o c1.2.1 0)) (hpf : pf = 66 ∨ pf = 67) (pl : PLF S s c1 (s.a pf (ceT c1)).toInt) (hp1 : f_X12_patch N s (s.a 49 (ceG c1)) w1 = some s1) (hy : f_X12_emit N s1 op w2 = some y) (hp2 : f_X12_patch N (RS.setA y.2 22 (y.2.a pf (ceT c1)).toNatClampNeg (y.2.i 20)) (y.2.a 48 (ceG c1)) w3 = some q) : COR d B b t0 (c :: L) (-9) S q ∧ (LNK S c1 c ∧ LOW S q c ∧ TOP S q c1 ∧ tpI q = (ceT c1 : Int)) ∧ (∀ k : Nat, 64 ≤ k → k ≤ 73 → q.a k (ceT c1) = s.a k (ceT c1)) ∧ (q.a 50 (ceG c1) = s.a 50 (ceG c1) ∧ q.a 44 (ceG c1) = s.a 44 (ceG c1)) ∧ (q.i 43 = s.i 43 ∧ q.i 38 = s.i 38) ∧ phI b + PDM S (c :: L) + dbt (S.o c1.2.1 0) ≤ phI q + 1 := by
  have pb : 64 ≤ pf ∧ pf ≤ 73 := by omega
  obtain ⟨hD, inj, ord, lk, lw⟩ := hC.drop nt ns nd ng
  have ph := hC.2.2.2.2.2.2.1.2.1
  have phe : PDM S (c1 :: c :: L) = dbt (S.o c1.2.1 0) + PDM S (c :: L) := rfl
  have pd0 := (PDM.ge S (c :: L)).1
  obtain ⟨-, b30, b0, col, hc⟩ := id hC.2.2.2.2.2.2.2.2.2.2
  obtain ⟨hx48, hx49⟩ := hc.2.2.1 c1 List.mem_cons_self go
  have e22a := pt_in (F := fun k => col k = some (ceG c1, false)) (κ := (ceG c1, false)) hc (fun k hk => hk) hx49 hp1
  obtain ⟨hE1, hc1⟩ := hD.e22 (hc.drop inj) (e22a.mono (fun k hk => (hc.fre b0).1 k false hk))
  have t1 : tpI s1 = (ceT c1 : Int) := by
    show (s1.i 63).toInt = _
    rw [e22a.1]
    exact ts
  have ph1 : phI s1 = phI s := by
    unfold phI
    rw [e22a.1]
  obtain ⟨n1, n2, n3, n4, n5, n6, n7, n8, n9, n19, -⟩ := y_emit hE1.1 t1 (by omega) hy
  have hin1 : INL S s1 (ceT c1) (c :: L) := by
    have z := STK.inl L c _ _ _ hE1.2.1 (by have := tp.1; have := lk.1; omega) (by rw [e22a.1]; have := tp.2.1; have := lk.2.2.1; omega) (by rw [e22a.1]; have := tp.2.2; have := lk.2.2.2.1; omega)
    rw [← lk.2.1] at z
    exact z
  have hE2 := hE1.mv3 hin1 hT n1 (n3 _) n4 ⟨by rw [n8]; exact Int.le_refl _, by omega, by rw [n9]; exact Int.le_refl _, by rw [n19]⟩
  have hc2 := hc1.mv b0 hin1 (CKZ.rf S) (n3 _) n4.1.r n4.2
  have fr : ∀ k : Nat, 64 ≤ k → k ≤ 73 → y.2.a k (ceT c1) = s.a k (ceT c1) := fun k h1 h2 => by
    rw [(n3 (ceT c1 + 1)).all k h1 h2, e22a.2.2.2.1 k (by omega)]
  have y67 := fr pf pb.1 pb.2
  have e66 : ∀ z ∈ c :: L, y.2.a 66 (ceT z) = s.a 66 (ceT z) := fun z hz => by
    have a := (hin1 z hz).2.2.1
    have b := wid1 (S.o z.2.1 0)
    rw [(n3 (ceT c1) (ceT z) (by omega)).2.2.1, e22a.2.2.2.1 66 (by decide)]
  rw [y67] at hp2
  have f67 : FRE S y.2 (c :: L) (cdr (ceG c1) col) (b.i 20).toInt (s.a pf (ceT c1)).toNatClampNeg := ((hc.fre b0).2 _ pl).mv e66
  obtain ⟨s3, hs3⟩ : ∃ s3, s3 = RS.setA y.2 22 (s.a pf (ceT c1)).toNatClampNeg (y.2.i 20) := ⟨_, rfl⟩
  have e22b : E22 (FRE S y.2 (c :: L) (cdr (ceG c1) col) (b.i 20).toInt) y.2 s3 := by
    rw [hs3]
    exact E22.set f67
  have a22 : ∀ k : Nat, k ≠ (s.a pf (ceT c1)).toNatClampNeg → s3.a 22 k = y.2.a 22 k := fun k hk => by
    rw [hs3]
    exact setA_ne hk
  rw [← hs3] at hp2
  clear hs3
  obtain ⟨hE3, hc3⟩ := hE2.e22 hc2 e22b
  have e663 : ∀ z ∈ c :: L, s3.a 66 (ceT z) = s.a 66 (ceT z) := fun z hz => by
    rw [e22b.2.2.2.1 66 (by decide)]
    exact e66 z hz
  have n67 := (hc.2.2.2.2.2.2 c1 List.mem_cons_self _ pl).2.2.1
  have gi : (ceG c1 : Int) < (s1.i 43).toInt := by
    rw [e22a.1]
    have := tp.2.1
    have := nGo1 go
    omega
  have y48 : y.2.a 48 (ceG c1) = s.a 48 (ceG c1) ∧ y.2.a 50 (ceG c1) = s.a 50 (ceG c1) ∧ y.2.a 44 (ceG c1) = s.a 44 (ceG c1) := by
    have z := n4.1.r.2.1 (ceG c1) gi
    rw [z.2.2.2.2.2.2.1, z.2.2.2.2.1, z.1, e22a.2.2.2.1 48 (by decide), e22a.2.2.2.1 50 (by decide), e22a.2.2.2.1 44 (by decide)]
    exact ⟨rfl, rfl, rfl⟩
  rw [y48.1] at hp2
  have e22c : E22 (FRE S s3 (c :: L) (cdr (ceG c1) col) (b.i 20).toInt) s3 q := by
    refine pt_e22 (κ := (ceG c1, true)) (col := col) (fun k hk => ((hc.fre b0).1 k true hk).mv e663) N (s.i 20).toInt.toNat s3 q w3 (s.a 48 (ceG c1)) (fun k hk _ => ?_) ?_ hp2
    · have k20 := (hc.1 k _ hk).2
      have nk : k ≠ (s.a pf (ceT c1)).toNatClampNeg := fun z => by
        have z2 : col k = none := by
          rw [z]
          exact n67
        rw [z2] at hk
        cases hk
      rw [a22 k nk, n4.2.2 k (by rw [e22a.1]; exact k20), e22a.2.2.2.2 k (fun z => by
        have z' : col k = some (ceG c1, false) := z
        rw [hk] at z'
        have z2 : true = false := congrArg Prod.snd (Option.some.inj z')
        exact absurd z2 (by decide))]
      exact hc.2.1 k _ hk
    · rcases hx48 with z | ⟨j, j1, j2⟩
      · exact Or.inl z
      · have := (hc.1 j _ j2).2
        exact Or.inr ⟨j, j1, by omega, j2⟩
  obtain ⟨hE4, -⟩ := hE3.e22 hc3 e22c
  have qi : q.i = y.2.i := e22c.1.trans e22b.1
  have qa : ∀ k : Nat, k ≠ 22 → q.a k = y.2.a k := fun k hk => (e22c.2.2.2.1 k hk).trans (e22b.2.2.2.1 k hk)
  have q43 : q.i 43 = s.i 43 := by
    rw [qi, n4.1.1.2.2.2.2.1, e22a.1]
  have q38 : q.i 38 = s.i 38 := by
    rw [qi, n4.1.1.2.2.2.1, e22a.1]
  have q56 : q.i 56 = s.i 56 := by
    rw [qi, n4.1.1.2.2.2.2.2.2.1, e22a.1]
  have phq : phI q = phI y.2 := by
    unfold phI
    rw [qi]
  refine ⟨hE4, ⟨lk, (((lw.e22 e22a).mv rfl (n3 (ceT c1)) (by rw [lk.2.1]; exact Nat.le_refl _)).e22 e22b).e22 e22c, ⟨tp.1, by rw [q43]; exact tp.2.1, by rw [q56]; exact tp.2.2⟩, ?_⟩, fun k h1 h2 => ?_, ⟨?_, ?_⟩, ⟨q43, q38⟩, by omega⟩
  · show (q.i 63).toInt = _
    rw [qi]
    exact n2
  · rw [qa k (by omega)]
    exact fr k h1 h2
  · rw [qa 50 (by decide)]
    exact y48.2.1
  · rw [qa 44 (by decide)]
    exact y48.2.2
set_option maxHeartbeats 2000000 in
theorem en_for {N : Nat} {E1 : CS → Option (Unit × CS)} {E2 : CS → Option (Int32 × CS)} {d : Int32} {B : CS} {b : RS} {t0 n : Nat} {L : List CEL} {x : Int} {S : CS} {s U : RS} {c1 c : CEL} {R : Unit × CS} {Aj : JBA} (mA : JBM U Aj) (hC : COR d B b t0 (c1 :: c :: L) x S s) (tp : TOP S s c1) (hM : MEN c1 S s) (h207 : S.o c1.2.1 0 = 207) (bz : BAZ B b (c1 :: c :: L)) (hT : t0 ≤ ceT c1) (e : f_X7_endBody N E1 E2 S c1.2.1 = some R) (g : f_X12_parse_10 N n s = some U) : ∃ (m : Nat) (u : RS), f_X12_parse_10 N m u = some U ∧ POPD d B b t0 c L R.2 u ∧ JTR Aj U B b (c1 :: c :: L) S s (vws R.2 u (c :: L)) R.2 u := by
  obtain ⟨one, o5, ts, h75, hm⟩ := hM
  obtain ⟨m1, e1, k1, m2, e2, k2, cst⟩ := STK.mem _ _ _ _ hC.2.1 c1 List.mem_cons_self
  obtain ⟨f1, f2, f3, f4, f5, f6⟩ := cst.2.2.1.2.2.2.2.2.2.2.2.1 h207
  have hv := hC.1
  have go : isGo (S.o c1.2.1 0) := Or.inr (Or.inr (Or.inr (Or.inr (Or.inl h207))))
  obtain ⟨m2, V, hV, g2⟩ := rl_12 g ts hv.1.2.1 f1
  unfold f_X12_fors at hV
  obtain ⟨hib, hV⟩ := hf_ite hV
  have t9 : ceT c1 < 1000 := by
    have h2 : (s.i 63).toInt = (ceT c1 : Int) := ts
    have := hib.2
    omega
  have g73 : (s.a 73 (ceT c1)).toNatClampNeg = ceG c1 := by
    show (s.a 73 (ceT c1)).toInt.toNat = ceG c1
    omega
  rw [tp_nat ts, f2, if_neg (by decide), if_neg (by decide), if_neg (by decide), if_neg (by decide), if_neg (by decide), if_neg (by decide), if_neg (by decide), if_neg (by decide), if_pos rfl, g73] at hV
  obtain ⟨-, hV⟩ := hf_ite hV
  obtain ⟨s1, hp1, hV⟩ := hf_bind hV
  obtain ⟨y, hy, hV⟩ := hf_bind hV
  obtain ⟨-, hV⟩ := hf_ite hV
  obtain ⟨q, hp2, hV⟩ := hf_bind hV
  obtain ⟨hE, ⟨lk, lwq, tpq, tq⟩, frm, ⟨q50, q44⟩, ⟨q43, q38⟩, -⟩ := lp_pt (pf := 67) hC tp ts hT go (by rw [h207]; unfold isTy; decide) (by rw [h207]; decide) (by rw [h207]; rfl) (by rw [h207]; rfl) (by rw [h207]; decide) (Or.inr rfl) (Or.inr (Or.inr ⟨Or.inr h207, rfl⟩)) hp1 hy hp2
  have q72 : q.a 72 (ceT c1) = S.o c1.2.1 7 := (frm 72 (by decide) (by decide)).trans f5
  have q71 : q.a 71 (ceT c1) = S.o c1.2.1 3 := (frm 71 (by decide) (by decide)).trans f4
  -- the class
  unfold f_X7_endBody at e
  obtain ⟨-, e⟩ := hf_ite e
  rw [if_neg (by rw [h207]; decide), if_neg (by rw [h207]; decide), if_neg (by rw [h207]; decide), if_neg (by rw [h207]; decide)] at e
  obtain ⟨p36, e36, e⟩ := hf_bind e
  obtain ⟨-, e⟩ := hf_ite e
  obtain ⟨p41, e41, e⟩ := hf_bind e
  obtain ⟨-, e⟩ := hf_ite e
  obtain ⟨a1, a2, -, -⟩ := y_add hv e36
  obtain ⟨b1, b2, -, -⟩ := y_aim a1 e41
  obtain ⟨a1q, -, -, -⟩ := y_add hE.1 e36
  obtain ⟨b1q, -, -, -⟩ := y_aim a1q e41
  have ck := a2.tr b2
  have hin0 := hC.inl tp (T := ceT c1 + wid (S.o c1.2.1 0)) rfl
  have hCp := hC.cx hin0 (by omega) b1 ck
  have eo : ∀ z ∈ c1 :: c :: L, p41.2.o z.2.1 = S.o z.2.1 := fun z hz => (hin0.o ck.z z hz).1
  have eo1 := eo c1 List.mem_cons_self
  have eoc := eo c (List.mem_cons_of_mem _ List.mem_cons_self)
  have fin : ∃ v : Int32, (v = 0 ∨ v = 1) ∧ (S.o c1.2.1 7 = 0 → v = 1) ∧ (s.a 50 (ceG c1) = 1 → v = 1) ∧ f_X12_over N (RS.setI (RS.setI q 43 (q.i 43 - 1)) 38 (q.a 71 (ceT c1))) v = some V ∧ f_X7_endBody_193 N E1 E2 (CS.setI p41.2 36 v) c1.2.1 = some R := by
    have f469 : ∀ r : RS, f_X12_fors_469 N r = some r := fun r => rfl
    rw [q72, q50] at hV
    rw [eo1] at e
    by_cases z : S.o c1.2.1 7 = 0
    · rw [if_pos z] at hV e
      obtain ⟨r, hr, hV⟩ := hf_bind hV
      rw [f469] at hV
      rw [Option.some.inj hV] at hr
      exact ⟨1, Or.inr rfl, fun _ => rfl, fun _ => rfl, hr, e⟩
    · rw [if_neg z] at hV e
      obtain ⟨p47, e47, e⟩ := hf_bind e
      obtain ⟨y1, y2⟩ := y_gone hCp (by rw [eo1]; exact go) (Or.inl ⟨rfl, rfl⟩) e47
      have y3 : p47.1 = s.a 50 (ceG c1) := y2.trans (if_pos rfl)
      rw [y1, y3] at e
      by_cases k : s.a 50 (ceG c1) = 0
      · rw [if_pos k] at hV e
        obtain ⟨r, hr, hV⟩ := hf_bind hV
        rw [f469] at hV
        rw [Option.some.inj hV] at hr
        exact ⟨0, Or.inl rfl, fun y => absurd y z, fun y => by rw [k] at y; exact absurd y (by decide), hr, e⟩
      · rw [if_neg k] at hV e
        obtain ⟨r, hr, hV⟩ := hf_bind hV
        rw [f469] at hV
        rw [Option.some.inj hV] at hr
        exact ⟨1, Or.inr rfl, fun _ => rfl, fun _ => rfl, hr, e⟩
  obtain ⟨v, hv1, va, vf, ho, e193⟩ := fin
  have g43 : (q.i 43 - 1).toInt = (q.i 43).toInt - 1 := by
    have e1 : (1 : Int32).toInt = 1 := by decide
    have hi := Int32.toInt_lt (q.i 43)
    have := tpq.2.1
    rw [toInt_sub] <;> rw [e1] <;> omega
  have hinq : INL S q (ceT c1) (c :: L) := by
    have z := STK.inl L c _ _ _ hE.2.1 (by have := tp.1; have := lk.1; omega) (by have := tpq.2.1; have := lk.2.2.1; omega) (by have := tpq.2.2; have := lk.2.2.2.1; omega)
    rw [← lk.2.1] at z
    exact z
  have hEp := hE.cx hinq hT b1q ck
  have tpp : TOP p41.2 q c1 := ⟨by rw [ck.1.2.2.2.2.1]; exact tp.1, by rw [eo1]; exact tpq.2.1, by rw [eo1]; exact tpq.2.2⟩
  have lkp : LNK p41.2 c1 c := by
    unfold LNK at *
    rw [eo1, eoc]
    exact lk
  have lwp : LOW p41.2 q c := by
    unfold LOW at *
    rw [eoc]
    exact lwq
  obtain ⟨X1, X2, X3, X4, X5⟩ := e_193 (n := c.1) (by rw [ck.1.2.2.2.2.1]; have := tp.1; have := lk.1; omega) e193
  have ob := hC.2.2.2.2.2.2.2.1.2
  have ord := STK.ord (c :: L) c1 _ _ _ hC.2.1
  have i50 : p41.2.i 50 = S.i 50 := ck.1.2.2.2.1
  refine ⟨m2, V, g2, (pop_core hEp tpp lkp lwp bz hT t9 tq (by rw [eo1, h207]; rfl) (fun _ => by rw [q44, f6]; decide) hv1 ho ⟨fun k h1 h2 _ => (if_neg h1).trans (if_neg h2), rfl, rfl, rfl⟩ (by rw [eo1]; exact q71) (by rw [eo1, nGo1 go]; exact g43) (by rw [eo1, i50]; exact ob.1 c1 List.mem_cons_self) (fun z hz => by rw [eo1, eo z (List.mem_cons_of_mem _ hz)]; exact ob.2.1 z (List.mem_cons_of_mem _ hz) c1 List.mem_cons_self (ord z hz)) X1 X2 X3 X4 X5).1, fun _ jw => ?_⟩
  -- the code
  have q71' : q.a 71 (ceT c1) = S.o c1.2.1 3 := q71
  obtain ⟨-, b30, b0, col, hc⟩ := id hC.2.2.2.2.2.2.2.2.2.2
  have ph := hC.2.2.2.2.2.2.1.2.1
  have phe : PDM S (c1 :: c :: L) = 1 + PDM S (c :: L) := by
    show dbt (S.o c1.2.1 0) + PDM S (c :: L) = _
    rw [h207]
    rfl
  have pd0 := (PDM.ge S (c :: L)).1
  have e22a := pt_in (F := fun k => col k = some (ceG c1, false)) (κ := (ceG c1, false)) hc (fun k hk => hk) (hc.2.2.1 c1 List.mem_cons_self go).2 hp1
  have s70 : s1.a 70 (ceT c1) = s.a 70 (ceT c1) := by rw [e22a.2.2.2.1 70 (by decide)]
  rw [s70] at hy
  have eo36 := (hin0.o a2.z c1 List.mem_cons_self).1
  rw [eo36] at e41
  obtain ⟨u, ee, e22, he2, j1, ⟨q20, qi', qa'⟩, p43⟩ := lp_code (hp := 70) mA hC (Or.inr h207) jw (by omega) hp1 hy hp2 e36 e41
  have hr0 : (vw S s c1).v = 207 := h207
  have gis := hC.gis
  have t43 := tp.2.1
  have o3le := (ob.1 c1 List.mem_cons_self).2
  obtain ⟨jr, oR, aV⟩ := j1.pop1 (n := c.1) (q' := RS.setI (RS.setI q 43 (q.i 43 - 1)) 38 (q.a 71 (ceT c1))) (by omega) (by rw [p43]; exact he2) (by rw [ck.1.2.2.2.2.1]; have := tp.1; have := lk.1; omega) e193 ⟨fun k h1 h2 => (if_neg h1).trans (if_neg h2), rfl⟩ (by
    show (q.a 71 (ceT c1)).toInt ≤ (q.i 38).toInt
    rw [q71', q38, ← hv.2.1.1]
    exact o3le) ho (fun y hy gy => by
    have := gis y hy gy
    show ((y.2.2.2 : Nat) : Int) < (q.i 43 - 1).toInt
    rw [g43, q43]
    have := nGo1 go
    omega) (fun k k1 k2 => by rw [qa' k (by omega), e22.2 k (by omega)]) (by rw [qi' 59 (by decide), e22.1]) (by rw [qi' 11 (by decide), e22.1]; exact Int.le_refl _) (by rw [qi' 19 (by decide), e22.1]; exact Int.le_refl _) (fun FC SF nm X ω j Z hω r12 hcc k cur => by
    obtain ⟨⟨ct, pq, ⟨s1', s2'⟩, ⟨u1', u2'⟩, pe1, pe2⟩, ⟨st, hd, rp, -⟩, G', -, hY, hX⟩ := k
    have p20 := hv.p20
    have p12 := pq.1
    have pS : (s.i 20 + 1).toInt = ((pcR s + 1 : Nat) : Int) := by
      have z1 : (s.i 20).toInt = ((pcR s : Nat) : Int) := (Int.toNat_of_nonneg p20.1).symm
      rw [ad1 p20.1 (by omega)]
      omega
    have r70 : (vw S s c1).2.1 70 = s.a 70 (ceT c1) := (vw_at (k := 70) ⟨by decide, by decide⟩)
    have r67 : (vw S s c1).2.1 67 = s.a 67 (ceT c1) := (vw_at (k := 67) ⟨by decide, by decide⟩)
    obtain ⟨p0, c0, l0, -⟩ := hd (S.o c1.2.1 10) (Or.inl ⟨Or.inr (Or.inl hr0), rfl⟩)
    have q70 := (rp go).2 hr0
    rw [r70] at q70
    have cq : (s.a 70 (ceT c1)).toInt = (((s.a 70 (ceT c1)).toInt.toNat : Nat) : Int) := (Int.toNat_of_nonneg q70).symm
    have nty : ¬ isTy (vw S s c1).v := fun z => by
      rw [hr0] at z
      rcases z with z | z | z | z <;> exact absurd z (by decide)
    have en : ∀ (h l : Nat), jen G' ω (vw S s c1) h l = [] := fun h l => jen.no (by rw [hr0]; decide) nty (by rw [hr0]; decide)
    have bk : jbk G' ω (vw S s c1) j = j := if_neg (by rw [hr0]; decide)
    have cn : jcn G' ω (vw S s c1) j = j.up 2528 := if_pos (by rw [hr0]; decide)
    rw [pe1, pe2] at cur
    refine lop_fin (jh := j.up 1264) c0 l0 cq hY hX (fun Y h => by rw [← r70]; exact h.2.2.1 hr0) (fun Y sy hed => ⟨⟨fun z => absurd (hr0.symm.trans z) (by decide), fun z => absurd (hr0.symm.trans z) (by decide), fun z => absurd (hr0.symm.trans z) (by decide), fun z => absurd (hr0.symm.trans z) (by decide), fun _ => ⟨fun f0 => ?_, ⟨_, _, c0, by rw [r70]; exact cq, l0, hed⟩⟩, fun z => absurd (hr0.symm.trans z) (by decide), fun z => absurd (hr0.symm.trans z) (by decide), fun z => absurd z nty, fun _ => noc.gl⟩, fun _ => ⟨fun fl => ?_, fun _ _ => ?_⟩, fun h1 => ?_⟩)
    · have pl7 := (hc.2.2.2.2.2.2 c1 List.mem_cons_self (s.a 67 (ceT c1)).toInt (Or.inr (Or.inr ⟨Or.inr h207, rfl⟩))).1
      have e9 := st (s.a 67 (ceT c1)).toNatClampNeg (Or.inr (Or.inr (Or.inl ⟨Or.inr hr0, by
        rw [r67]
        exact clampI (by omega)⟩)))
      refine ⟨_, _, ct, ?_, sy _ _ _ _ _ _ (Nat.zero_le _) (cur (va f0)).1⟩
      rw [r67, e9]
      exact pS
    · rw [bk]
      exact ⟨_, _, ct, pS, sy _ _ _ _ _ _ (Nat.zero_le _) (cur (vf fl)).1⟩
    · rw [cn]
      refine ⟨_, _, c0, cq, ?_⟩
      have z := hed.1
      rw [show ω + (j.up 1264).l + 1264 - p0 = ω + (j.up 2528).l - p0 by (show ω + (j.l + 1264) + 1264 - p0 = ω + (j.l + 2528) - p0; omega)] at z
      exact z
    · have jl : jlv (vw S s c1).v = 3792 := by rw [hr0]; rfl
      rw [en, jl]
      have hl : (j.up 1264).l = j.l + 1264 := rfl
      have z : ∀ g : Nat, GU FC SF U nm Y (pcC S) (pcR s) j.h (ω + (j.l + 3792) - pcC S) g j.c := fun g => gi_UJmp (pq.hc hcc) pq.2.1 ⟨s1', u1', p0, _, _, ⟨by rw [s2']; exact c0, by rw [u2']; exact cq⟩, by rw [hl]; omega, hed.1⟩
      exact ⟨z 0, z 1⟩)
  rw [clo_veq (hC.drop (by rw [h207]; unfold isTy; decide) (by rw [h207]; decide) (by rw [h207]; rfl) (by rw [h207]; rfl)).1 tp lk (fun j _ => by rw [aV, qa' 40 (by omega)]) (fun y hy => by rw [oR]; exact (hin0.o ck.z y (List.mem_cons_of_mem _ hy)).1) (fun k t h1 h2 _ => by rw [aV, qa' k (by omega)])]
  exact jr
end
