/-! both readers: lock -/
theorem TBK9.tr {s u w : RS} (h : TBK9 s u) (g : TBK9 u w) : TBK9 s w := by
  obtain ⟨⟨⟨a1, a2, a3, a4, a5, -, a7, a8, a9, a10⟩, r⟩, c⟩ := h
  obtain ⟨⟨⟨b1, b2, b3, b4, b5, -, b7, b8, b9, b10⟩, r2⟩, c2⟩ := g
  exact ⟨⟨⟨b1.trans a1, b2.trans a2, b3.trans a3, b4.trans a4, b5.trans a5, trivial, b7.trans a7, b8.trans a8, b9.trans a9, b10.trans a10⟩, r.tr r2 (by rw [a4]; exact Int.le_refl _) (by rw [a5]; exact Int.le_refl _) (by rw [a7]; exact Int.le_refl _)⟩, c.tr (c2.wk c.1)⟩
theorem ENV.dep {d : Int32} {S : CS} {s : RS} {v : Int32} (h : ENV d S s) (hv : v.toInt = (S.i 38).toInt + 1) (h54 : (S.i 38).toInt + 1 ≤ (S.i 54).toInt) : ENV d (CS.setI S 38 v) s := by
  refine h.gx (fun j _ _ h3 _ _ _ _ => ci_ne _ _ _ h3) ⟨rfl, rfl, rfl⟩ rfl rfl (h.ri.mv rfl rfl rfl rfl ⟨rfl, rfl, rfl⟩ h.ri.2.2.2.2.2.2 (Int.le_refl _)) ?_ h.t21
  obtain ⟨s1, s2, s3, s4, s5, s6⟩ := h.sj
  exact ⟨s1, s2, s3, s4, by show 0 ≤ v.toInt; omega, by show v.toInt ≤ (S.i 54).toInt; omega⟩
/-- a block's sign and its list, in the reference; the class opens the sign -/
theorem bl_open {N : Nat} (hN : 1000 ≤ N) {d : Int32} {T n K : Nat} {p f k y z : Int} {S P : CS} {s q U : RS} {R : Unit × CS} (hK : T + 1 ≤ K) (w : WAX d T p f k y z S s P q) (tq : tpI q = (K : Int)) (k64 : q.a 64 K = 3) (k65 : q.a 65 K = 0) (e1 : f_X1_open N P 123 = some R) (g : f_X12_parse_10 N n q = some U) : (¬ R.2.i 32 = 0 ∧ ¬ U.i 15 = 0) ∨ ∃ (m : Nat) (u : RS), f_X12_parse_10 N m u = some U ∧ WAX d T (p + 1) (f + 3) (k + 1) (y - 2) (z + 1) S s R.2 u ∧ FRB K q u ∧ TBK q u ∧ tpI u = ((K + 1 : Nat) : Int) ∧ FBL u K ∧ u.a 66 K = q.i 38 ∧ u.a 65 (K + 1) = 0 ∧ (u.i 59 = q.i 59 ∧ u.a 60 = q.a 60 ∧ u.a 61 = q.a 61 ∧ u.a 62 = q.a 62) ∧ u.a 44 = q.a 44 ∧ (q.i 17).toInt ≤ (u.i 17).toInt ∧ (q.i 11).toInt + 1 ≤ (u.i 11).toInt ∧ qe u = qe q := by
  obtain ⟨m2, V, hV, g2⟩ := rl_3 g tq w.1.1.2.1 k64
  unfold f_X12_block at hV
  obtain ⟨-, hV⟩ := hf_ite hV
  rw [tp_nat tq, if_pos k65] at hV
  obtain ⟨ob, hob, hV⟩ := hf_bind hV
  rw [ob_id] at hV
  have yo := y_open hN w.1 (c := 123) (d := 123) (Or.inl ⟨by decide, by decide⟩) (by decide) (by decide) (by decide) e1 hob
  rcases w.op hN (c := 123) (e := 123) (Or.inl ⟨by decide, by decide⟩) (by decide) (by decide) (by decide) e1 hob with ⟨o1, o2, o3⟩ | ⟨o1, w2, f2, i63, i38⟩
  · exact Or.inl ⟨o2, u_flt g2 (krf_f_X12_then N _ 1 1 V hV (show ¬ (RS.setA ob.2 66 K (ob.2.i 38)).i 15 = 0 from o3))⟩
  have qjo : qj ob.2 = qj q ∧ ob.2.i 20 = q.i 20 ∧ ob.2.a 22 = q.a 22 := by
    rcases yo with ⟨z, -⟩ | ⟨-, -, -, z, -, -, -, z2, z3, -⟩
    · rw [o1] at z
      exact absurd z (by decide)
    · exact ⟨z, z2, z3⟩
  have tob : tpI ob.2 = (K : Int) := by
    show (ob.2.i 63).toInt = (K : Int)
    rw [i63]
    exact tq
  obtain ⟨hV', t99⟩ := r_then (s := RS.setA ob.2 66 K (ob.2.i 38)) tob hV
  rw [hV'] at g2
  obtain ⟨u, hu⟩ : ∃ y, y = TH (RS.setA ob.2 66 K (ob.2.i 38)) K 1 1 := ⟨_, rfl⟩
  have evu : ENV d R.2 u := by rw [hu]; exact (setA_env (Or.inr (by omega)) w2.1).th
  have fu : FRB K ob.2 u := by rw [hu]; exact (setA_frb (Or.inr ⟨by omega, by omega, Nat.le_refl _⟩)).tr TH.frb
  have ku : TBK ob.2 u := by rw [hu]; exact (setA_tbk (by omega)).tr TH.tbk
  have iu : ∀ k : Nat, k ≠ 63 → u.i k = ob.2.i k := by
    rw [hu]
    exact fun k h => if_neg h
  have u64 : u.a 64 K = 3 := by
    rw [hu, TH.fk0 (Nat.le_refl K)]
    show ob.2.a 64 K = 3
    rw [(f2 (K + 1) K (by omega)).1]
    exact k64
  have u65 : u.a 65 K = 1 := by rw [hu]; exact TH.st
  have u66 : u.a 66 K = ob.2.i 38 := by
    rw [hu]
    show (RS.setA ob.2 66 K (ob.2.i 38)).a 66 K = ob.2.i 38
    exact setA_at
  have u641 : u.a 64 (K + 1) = 1 := by rw [hu]; exact TH.fk
  have u651 : u.a 65 (K + 1) = 0 := by rw [hu]; exact TH.fs
  have tu : tpI u = ((K + 1 : Nat) : Int) := by rw [hu]; exact TH.tp (u := RS.setA ob.2 66 K (ob.2.i 38)) tob (by omega)
  have pa : u.a 60 = ob.2.a 60 ∧ u.a 61 = ob.2.a 61 ∧ u.a 62 = ob.2.a 62 ∧ u.a 44 = ob.2.a 44 := by
    rw [hu]
    exact ⟨rfl, rfl, rfl, rfl⟩
  have quo : qe u = qe ob.2 := by rw [hu]; rfl
  rw [← hu] at g2
  clear hu hV'
  have phu : phI u = phI ob.2 := by
    unfold phI
    rw [iu 17 (by decide), iu 20 (by decide)]
  have w3 := w2.rs (f1 := 0) evu (fu.mo (by omega)) ku.t9 ⟨iu 11 (by decide), by omega, iu 17 (by decide), iu 19 (by decide)⟩
  obtain ⟨x59, x60, x61, x62, -⟩ := qj_p qjo.1
  have tbo : TBK q ob.2 := TBK.of qjo.1 (by rw [qjo.2.1]; exact Int.le_refl _) (fun j _ => by rw [qjo.2.2])
  have l17 : (q.i 17).toInt ≤ (ob.2.i 17).toInt := by
    rcases yo with ⟨z, -⟩ | ⟨-, -, -, -, -, z, -⟩
    · rw [o1] at z
      exact absurd z (by decide)
    · rw [z, t17_up (N := N) w.1]
      omega
  have l11 : (q.i 11).toInt + 1 ≤ (u.i 11).toInt := by
    rw [iu 11 (by decide)]
    rcases yo with ⟨z, -⟩ | ⟨-, -, -, -, -, -, z, -⟩
    · rw [o1] at z
      exact absurd z (by decide)
    · exact z
  exact Or.inr ⟨m2, u, g2, w3.nu (by omega) (by omega) (by omega) (by omega) (by omega), (f2 K).tr fu, tbo.tr ku, tu, ⟨u64, u65, u641⟩, u66.trans i38, u651, ⟨(iu 59 (by decide)).trans x59, pa.1.trans x60, pa.2.1.trans x61, pa.2.2.1.trans x62⟩, pa.2.2.2.trans (qj_44 qjo.1), by rw [iu 17 (by decide)]; exact l17, l11, quo.trans (kre_f_X12_open N q 123 ob hob)⟩
theorem TBR.rf (s : RS) : TBR s s := (TBZ.rf s).r
theorem CDK.rf (c : Int) (s : RS) : CDK c s s := ⟨Int.le_refl _, fun _ _ => rfl⟩
/-- a row more, with its list: nothing waits, no goal -/
theorem gen_list {d : Int32} {B : CS} {b : RS} {t0 T : Nat} {L : List CEL} {R : CS} {u : RS} {c c1 : CEL} {a : Nat} {v : Int32} (h : COR d B b t0 (c1 :: c :: L) (-9) R u) (ht : TOP R u c1) (v2 : c1.2.1 = a) (v3 : ceT c1 = T) (g0 : R.o a 0 = v) (nv : ¬ isOne v ∧ ¬ v = 305 ∧ ¬ v = 303 ∧ ¬ v = 218) (tu : tpI u = (T : Int) + (wid v : Int) - 1) (u64 : u.a 64 (T + wid v - 1) = 1) (u65 : u.a 65 (T + wid v - 1) = 0) (h36 : R.i 36 = 1) {J : List RVW → CS → RS → Prop} (hJ : J (vws R u (c1 :: c :: L)) R u) : NEW d B b t0 c L R u J := by
  have cd9 : cod c1 R u = -9 := by
    unfold cod
    rw [if_neg]
    intro z
    have z1 := z.1
    rw [v2, g0] at z1
    exact nv.2.2.1 z1
  refine ⟨c1, by rw [cd9]; exact h, ht, ⟨Or.inl ⟨?_, ?_, ?_, ?_, Or.inl ⟨?_, h36⟩, fun z => ?_⟩, Or.inr h36⟩, hJ⟩
  · rw [v2, g0]
    exact nv.1
  · rw [v2, g0]
    exact nv.2.1
  · rw [v2, g0, v3]
    exact tu
  · rw [v2, g0, v3]
    exact u64
  · rw [v2, g0, v3]
    exact u65
  · rw [v2, g0] at z
    exact absurd z nv.2.2.2
theorem RFR.nogo {S : CS} {s : RS} {c1 : CEL} {L : List CEL} {col : Nat → Option (Nat × Bool)} {b20 : Int} {v : Int32} (h : COL S s L col b20) (g0 : S.o c1.2.1 0 = v) (nv : v = 212 ∨ v = 213) : COL S s (c1 :: L) col b20 := by
  refine h.add ?_ ?_ ?_
  · rw [g0]
    rcases nv with h | h <;> rw [h] <;> unfold isGo <;> decide
  · rw [g0]
    rcases nv with h | h <;> rw [h] <;> decide
  · intro k z
    unfold PLF at z
    rw [g0] at z
    rcases nv with h | h <;> rw [h] at z <;> rcases z with ⟨z | z, -⟩ | ⟨z, -⟩ | ⟨z | z, -⟩ <;> exact absurd z (by decide)
set_option maxHeartbeats 4000000 in
/-- lock, from behind what it locks -/
theorem lk_58 {N : Nat} (hN : 1000 ≤ N) {d : Int32} {B : CS} {b : RS} {t0 T n : Nat} {L : List CEL} {x : Int} {S P : CS} {s q V U : RS} {c : CEL} {R : Unit × CS} {A : JBA} (hC : COR d B b t0 (c :: L) x S s) (q1 : TOP S s c) (q2 : LOW S s c) (q3 : T = ceT c + wid (S.o c.2.1 0)) (hT : t0 ≤ T) (hm : NMC c S) (hx : S.o c.2.1 0 = 303 → x = -1) (w : WAY d T 3 7 1 (-6) 3 S s P q) (jg : KU3 U s → JRW A U B b (vws S s (c :: L)) S s → JRG A U B b (vws S s (c :: L)) s [] (JQN U 1264 enL (pcC P) (pcR q) JQZ) (-2) (-3) P q) (k64 : q.a 64 T = 13) (e : f_X7_beginLock_58 N P = some R) (hV : f_X12_lock_94 N q = some V) (g : f_X12_parse_10 N n V = some U) : (¬ R.2.i 32 = 0 ∧ ¬ U.i 15 = 0) ∨ ∃ (m : Nat) (u : RS), f_X12_parse_10 N m u = some U ∧ NEW d B b t0 c L R.2 u (JTR A U B b (c :: L) S s) := by
  have hv := hC.1
  have t21 := hC.2.2.2.2.2.2.2.2.1.1
  have q54 := hC.2.2.2.2.2.2.2.2.1.2.2
  unfold f_X7_beginLock_58 at e
  obtain ⟨c22, e22, e⟩ := hf_bind e
  obtain ⟨c26, e26, e⟩ := hf_bind e
  obtain ⟨pp, epp, e⟩ := hf_bind e
  have hoc := hf_oc e
  have ex : ∃ a : Nat, pp.1 = some a ∧ ((f_X0_newTarget N pp.2).bind fun p40 => if oK p40.2 a 0 then some ((), CS.setI (CS.setO p40.2 a 9 p40.1) 38 ((p40.2.i 38) + 1)) else none) = some R := by
    rcases hoc with ⟨-, y⟩ | ⟨a, h1, h2⟩
    · obtain ⟨y1, -, y⟩ := hf_bind y
      cases y
    · exact ⟨a, h1, h2⟩
  clear e hoc
  obtain ⟨a, ra, e⟩ := ex
  obtain ⟨x40, ex40, e⟩ := hf_bind e
  obtain ⟨-, e⟩ := hf_ite e
  cases e
  have f26 : ¬ c26.2.i 32 = 0 → ¬ x40.2.i 32 = 0 := fun z => by
    have z1 : ¬ pp.2.i 32 = 0 := by rw [kF_X6_push N c26.2 212 _ _ pp epp z]; exact z
    rw [kF_X0_newTarget N pp.2 x40 ex40 z1]
    exact z1
  have f22 : ¬ c22.2.i 32 = 0 → ¬ x40.2.i 32 = 0 := fun z => f26 (by rw [kF_X1_open N c22.2 123 c26 e26 z]; exact z)
  show (¬ x40.2.i 32 = 0 ∧ ¬ U.i 15 = 0) ∨ ∃ (m : Nat) (u : RS), f_X12_parse_10 N m u = some U ∧ NEW d B b t0 c L (CS.setI (CS.setO x40.2 a 9 x40.1) 38 ((x40.2.i 38) + 1)) u (JTR A U B b (c :: L) S s)
  -- the reference
  unfold f_X12_lock_94 at hV
  obtain ⟨sh, hsh, hV⟩ := hf_bind hV
  rw [ob_id] at hV
  rcases w.cl hN hv (by omega) (c := 41) (e := 41) (Or.inl ⟨by decide, by decide⟩) (by decide) (by decide) (by decide) e22 hsh with ⟨o1, o2, o3⟩ | ⟨o1, w1, f1⟩
  · exact Or.inl ⟨f22 o2, u_flt g (krf_f_X12_then N _ 1 3 V hV (show ¬ (RS.setI sh.2 52 (sh.2.i 52 + 1)).i 15 = 0 from o3))⟩
  have tsh : tpI (RS.setI sh.2 52 (sh.2.i 52 + 1)) = (T : Int) := w1.2.1
  obtain ⟨hV', t99⟩ := r_then tsh hV
  rw [hV'] at g
  obtain ⟨y, hy⟩ : ∃ y, y = TH (RS.setI sh.2 52 (sh.2.i 52 + 1)) T 1 3 := ⟨_, rfl⟩
  have evy : ENV d c22.2 y := by rw [hy]; exact w1.1.s52.th
  have fy : FRB T sh.2 y := by rw [hy]; exact (show FRB T sh.2 (RS.setI sh.2 52 (sh.2.i 52 + 1)) from fun _ _ => ⟨rfl, rfl, rfl, rfl, rfl, rfl, rfl, rfl, rfl, rfl, rfl⟩).tr TH.frb
  have ky : TBK9 sh.2 y := by rw [hy]; exact TBK.s52 TH.tbk
  have iy : ∀ k : Nat, k ≠ 63 → k ≠ 52 → y.i k = sh.2.i k := by
    rw [hy]
    exact fun k h1 h2 => (show (TH (RS.setI sh.2 52 (sh.2.i 52 + 1)) T 1 3).i k = (RS.setI sh.2 52 (sh.2.i 52 + 1)).i k from if_neg h1).trans (if_neg h2)
  have y64 : y.a 64 T = 13 := by
    rw [hy, TH.fk0 (Nat.le_refl T)]
    show sh.2.a 64 T = 13
    rw [(f1 (T + 1) T (by omega)).1]
    exact k64
  have y65 : y.a 65 T = 1 := by rw [hy]; exact TH.st
  have y641 : y.a 64 (T + 1) = 3 := by rw [hy]; exact TH.fk
  have y651 : y.a 65 (T + 1) = 0 := by rw [hy]; exact TH.fs
  have ty : tpI y = ((T + 1 : Nat) : Int) := by rw [hy]; exact TH.tp tsh (by omega)
  have qy : qe (RS.setI y 52 (sh.2.i 52)) = qe sh.2 := by rw [hy]; rfl
  have y52 : y.i 52 = sh.2.i 52 + 1 := by rw [hy]; rfl
  have ya40 : y.a 40 = sh.2.a 40 := by rw [hy]; rfl
  rw [← hy] at g
  clear hy hV'
  have phy : phI y = phI sh.2 := by
    unfold phI
    rw [iy 17 (by decide) (by decide), iy 20 (by decide) (by decide)]
  have w2 := (w1.z (by omega)).x.rs (f1 := 0) evy fy ky ⟨iy 11 (by decide) (by decide), by omega, iy 17 (by decide) (by decide), iy 19 (by decide) (by decide)⟩
  rcases bl_open hN (Nat.le_refl _) w2 ty y641 y651 e26 g with ⟨z1, z2⟩ | ⟨m2, u, g2, w3, fu, ku, tu, fb, u66, u65, up, -, -, uy11, quy⟩
  · exact Or.inl ⟨f26 z1, z2⟩
  refine Or.inr ⟨m2, u, g2, ?_⟩
  have lo3 := w3.lo
  have sgP := w3.sg hv
  obtain ⟨a', m, ra', psr, evR, sq⟩ := w3.1.row (v := 212) ⟨by decide, by decide, by decide, by decide⟩ (w3.pay hv (by omega)) (by rw [if_neg (by decide), if_pos (by decide)]; omega) (by omega) epp
  have ea : a' = a := by
    rw [ra] at ra'
    cases ra'
    rfl
  rw [ea] at psr sq
  have p21 : (pp.2.i 21).toInt = (c26.2.i 21).toInt := by rw [psr.2.1 21 (by decide) (by decide)]
  obtain ⟨ev40, -, x21⟩ := evR.nt (by omega) ex40
  have evO : ENV d (CS.setO x40.2 a 9 x40.1) u := ev40.so (by decide)
  have sqO := (sq.nt ex40).so (k := 9) (w := x40.1) ⟨by decide, by decide, by decide, by decide⟩
  have i38' : x40.2.i 38 = c26.2.i 38 := by
    unfold f_X0_newTarget at ex40
    cases ex40
    show pp.2.i 38 = c26.2.i 38
    exact psr.2.1 38 (by decide) (by decide)
  obtain ⟨s1, s2, s3, s4, s5, s6⟩ := id w3.1.sj
  obtain ⟨-, ⟨r53, r54, -, -⟩, -⟩ := id sqO
  have hi := i11_hi w3.1
  have a38 : (x40.2.i 38 + 1).toInt = (c26.2.i 38).toInt + 1 := by
    rw [i38']
    exact ad1 s5 (by omega)
  have evD : ENV d (CS.setI (CS.setO x40.2 a 9 x40.1) 38 (x40.2.i 38 + 1)) u := evO.dep (by rw [a38]; show _ = (x40.2.i 38).toInt + 1; rw [i38']) (by show (x40.2.i 38).toInt + 1 ≤ _; rw [i38', r54]; omega)
  have sqD : PSQ c26.2 (CS.setI (CS.setO x40.2 a 9 x40.1) 38 (x40.2.i 38 + 1)) a m 212 (c26.2.i 50) := by
    obtain ⟨⟨c1, c2, c3, c4, c5, c6, c7, c8⟩, ⟨d1, d2, d3, d4⟩, ⟨e1, e2, e3⟩, h4, ⟨f0, f1, f3, f14⟩, h6⟩ := sqO
    exact ⟨⟨c1, c2, c3, c4, c5, c6, c7, c8⟩, ⟨d1, d2, d3, d4⟩, ⟨e1, e2, e3⟩, h4, ⟨f0, f1, f3, f14⟩, h6⟩
  have X21 : ((CS.setI (CS.setO x40.2 a 9 x40.1) 38 (x40.2.i 38 + 1)).i 21).toInt = (c26.2.i 21).toInt + 1 := by
    show (x40.2.i 21).toInt = _
    omega
  have X38 : ((CS.setI (CS.setO x40.2 a 9 x40.1) 38 (x40.2.i 38 + 1)).i 38).toInt = (c26.2.i 38).toInt + 1 := a38
  obtain ⟨X, hX⟩ : ∃ X, X = CS.setI (CS.setO x40.2 a 9 x40.1) 38 (x40.2.i 38 + 1) := ⟨_, rfl⟩
  have d38X : D38 (CS.setO x40.2 a 9 x40.1) X := by rw [hX]; exact ⟨⟨rfl, rfl, rfl, rfl, rfl⟩, rfl, rfl, rfl, rfl⟩
  have aX : X.a = x40.2.a := by rw [hX]; rfl
  have oX9 : X.o a 9 = x40.1 := by rw [hX]; exact so_at
  have oX2 : X.o a 2 = c26.2.i 38 := by
    rw [hX]
    show (CS.setO x40.2 a 9 x40.1).o a 2 = _
    rw [so_nk (by decide)]
    have z1 : x40.2.o a 2 = pp.2.o a 2 := by
      unfold f_X0_newTarget at ex40
      cases ex40
      rfl
    rw [z1]
    exact psh_o2 epp ra
  have n59 : NT5 x40.1 := by
    have z1 := w3.1.t21
    have z2 := (i11_hi w3.1).2
    exact (nt5r ex40 ⟨by rw [psr.2.1 21 (by decide) (by decide)]; exact z1.1, by rw [psr.2.1 21 (by decide) (by decide)]; omega⟩).1
  have X38' : (X.i 38).toInt = ((CS.setO x40.2 a 9 x40.1).i 38).toInt + 1 := by
    rw [hX]
    show (x40.2.i 38 + 1).toInt = (x40.2.i 38).toInt + 1
    rw [a38, i38']
  rw [← hX] at evD sqD X21 X38 ⊢
  clear hX
  obtain ⟨zX, ⟨R53, R54, -, -⟩, ⟨R50, R56, R36⟩, ⟨-, -, rr1⟩, ⟨g0, -, g3', -⟩, -⟩ := id sqD
  have c50 : c26.2.i 50 = S.i 50 := by
    have z1 := w3.1.2.1.1
    have z2 : u.i 38 = y.i 38 := ku.1.1.2.2.2.1
    have z3 : y.i 38 = sh.2.i 38 := iy 38 (by decide) (by decide)
    have z4 := w1.2.2.2.1.1.1.2.2.2.1
    have z5 := hv.2.1.1
    rw [z1, z2, z3, z4, z5]
  have u66' : u.a 66 (T + 1) = X.o a 3 := by
    rw [u66, g3', c50, iy 38 (by decide) (by decide), w1.2.2.2.1.1.1.2.2.2.1]
    exact hv.2.1.1.symm
  obtain ⟨c1, hc, ht, v2, v3⟩ := hC.gen q1 q2 q3 hT hm hx w3 (by omega) ⟨by decide, by decide, by decide, by decide, by decide, by decide, by unfold isKS isOne isTy; decide⟩ sqD (g3'.trans c50) (by rw [X38]; rfl) (FRB.rf _ _) (TBR.rf _) (CDK.rf _ _) ⟨rfl, rfl, rfl, rfl, rfl, rfl, rfl⟩ (by show _ = _ + ((0 : Nat) : Int); omega) (by show _ = _ + ((0 : Nat) : Int); omega) evD ⟨Int.le_refl _, by show phI s + 0 ≤ phI u; omega, Int.le_refl _, by have z9 := w3.2.2.2.2.2.2.1.2.2.2; show _ = _ + ((1 : Nat) : Int); omega⟩ (by rw [X21]; omega) (by rw [R54]; omega) ⟨rfl, rfl, rfl, rfl⟩ (fun c1 h1 h2 h3 _ _ => CST.pl (by rw [h1, h2]; exact rr1) (by rw [h1]; have := sqD.2.2.2.1.2.1; omega) (by rw [h2, h3]; exact RFR.m212 g0 ⟨by rw [(fu T (by omega)).1]; exact y64, by rw [(fu T (by omega)).2.1]; exact y65, fb, u66'⟩) (by rw [h2, g0]; decide) (by rw [h2, g0]; unfold isTy; decide)) (fun g _ z => absurd z (by unfold isGo; decide)) (fun z => absurd z (by unfold isTy; decide)) (fun c1 col h1 _ _ _ hcl _ _ => RFR.nogo hcl (by rw [h1]; exact g0) (Or.inl rfl))
  refine gen_list hc ht v2 v3 g0 ⟨by unfold isOne; decide, by decide, by decide, by decide⟩ (by rw [tu]; show _ = (T : Int) + ((3 : Nat) : Int) - 1; omega) fb.2.2 u65 (R36.trans w3.2.2.2.2.2.1.2.2.2) (fun ku3 jw => ?_)
  have hin := hC.inl q1 q3
  have ckall : CKZ S X := w3.2.2.2.2.1.tr w3.2.2.2.2.2.1.2.1 zX
  have veq : vws X u (c :: L) = vws S s (c :: L) := vws.eqf (T := T) (fun j hj => (w3.2.2.2.1.1.1 j hj).2.1) (c :: L) hC.o3 (fun y hy => (hin.o ckall y hy).1) (fun k t h1 h2 h3 => w3.2.2.1.fld k t h1 h2 h3) (fun y hy => by
    have z1 := wid1 (S.o y.2.1 0)
    have z2 := (hin y hy).2.2.1
    omega)
  show JRW A U B b (vw X u c1 :: vws X u (c :: L)) X u
  rw [veq]
  have pls : ∀ y ∈ vws S s (c :: L), y.2.2.1 < c1.1 := vws.pl hc
  have pa1 := psr.1.1
  have j1 := (jg ku3 jw).cls hN w.1 (by have := w.sg hv; omega) (c := 41) (c' := 41) (Or.inl ⟨by decide, by decide⟩) (by decide) (by decide) (by decide) e22 hsh o1
  have j2 := j1.cec 1 (kc_X1_open N c22.2 123 c26 e26) (ke_X1_open N c22.2 123 c26 e26) (by rw [evy.p44.1, w3.1.p44.1]; exact uy11)
  have n1 : NMV sh.2 (RS.setI u 52 (sh.2.i 52)) := by
    have z2 : u.i 38 = y.i 38 := ku.1.1.2.2.2.1
    refine ⟨show u.i 38 = sh.2.i 38 from z2.trans (iy 38 (by decide) (by decide)), fun j hj => ?_⟩
    show u.a 40 j = sh.2.a 40 j
    rw [(ku.1.2.1 j (by rw [iy 38 (by decide) (by decide)]; exact hj)).2.1, ya40]
  have j3 := j2.se (u := RS.setI u 52 (sh.2.i 52)) ((qe.s52 quy).trans qy) n1
  have j4 := j3.ce (R := pp.2) (ke_X6_push N c26.2 212 _ _ pp epp) (psr.2.1 21 (by decide) (by decide)) (by rw [pa1]) (by rw [pa1]) (psr.2.1 50 (by decide) (by decide)) (psr.2.1 44 (by decide) (by decide))
  have h44 : (pp.2.i 44).toInt ≤ 900 := by rw [psr.2.1 44 (by decide) (by decide), w3.1.p44.1]; exact hi.2
  have j5 := (j4.nt ex40 h44 (by omega)).ce (R := CS.setO x40.2 a 9 x40.1) rfl rfl rfl rfl rfl rfl
  have e40 : x40.2.i 20 = c26.2.i 20 := by
    unfold f_X0_newTarget at ex40
    cases ex40
    exact (pe_eq (ke_X6_push N c26.2 212 _ _ pp epp)).1
  have pcX : pcC X = pcC P := by
    have z1 : pcC c26.2 = pcC P := (pcC.pe (ke_X1_open N c22.2 123 c26 e26)).trans (pcC.pe (ke_X1_close N P 41 c22 e22))
    rw [← z1]
    unfold pcC
    rw [d38X.1.1]
    show (x40.2.i 20).toInt.toNat = _
    rw [e40]
  have pru : pcR u = pcR q := by
    have z1 : pcR sh.2 = pcR q := pcR.qe (kre_f_X12_shut N q 41 sh hsh)
    rw [← z1]
    have z2 := (qe_eq ((qe.s52 quy).trans qy)).1.1
    have z3 : u.i 20 = sh.2.i 20 := z2
    unfold pcR
    rw [z3]
  have hr : (vw X u c1).v = 212 := show X.o c1.2.1 0 = 212 by rw [v2]; exact g0
  have r9 : (vw X u c1).1 9 = x40.1 := show X.o c1.2.1 9 = x40.1 by rw [v2]; exact oX9
  have jl : jlv (vw X u c1).v = 1264 := by rw [hr]; rfl
  have en : ∀ (G : GHT) (ω h l : Nat), jen G ω (vw X u c1) h l = [enL h] := fun G ω h l => by
    unfold jen
    rw [hr, if_pos rfl]
    rfl
  have u52 : (u.i 52).toInt = ((RS.setI u 52 (sh.2.i 52)).i 52).toInt + 1 ∨ ¬ (0 ≤ (sh.2.i 52).toInt ∧ (sh.2.i 52).toInt ≤ 1000) := by
    rcases Decidable.em (0 ≤ (sh.2.i 52).toInt ∧ (sh.2.i 52).toInt ≤ 1000) with z | z
    · refine Or.inl ?_
      have z1 : u.i 52 = sh.2.i 52 + 1 := ((qe_eq quy).1.2.2.2.2.2).trans y52
      show (u.i 52).toInt = (sh.2.i 52).toInt + 1
      rw [z1, ad1 z.1 (by omega)]
    · exact Or.inr z
  have u19 := w3.2.2.2.2.2.2.1.2.2.2
  have s19 := hv.2.2.1.2.2
  have gkp : GKP s u := GKP.tbr w3.2.2.2.1.1 (by rw [w3.2.2.2.1.2.2.2.2.2.1]; exact Int.le_refl _)
  refine j5.psd (r := vw X u c1) (R0 := CS.setO x40.2 a 9 x40.1) (u0 := RS.setI u 52 (sh.2.i 52)) (0, 0, []) (fun z => z.ps (by rw [aX]; rfl) (by rw [aX]; rfl) (by rw [d32.yes (Or.inl hr)]; exact ((qe_eq quy).1.2.2.2.2.2).trans y52) (Int.le_refl _)) d38X D52.s52 ⟨by omega, fun y => by rcases y with y | y | y | y | y <;> rw [hr] at y <;> exact absurd y (by decide), ⟨fun y => by rcases y with y | y | y <;> rw [hr] at y <;> exact absurd y (by decide), fun y => absurd (hr.symm.trans y) (by decide), by rw [hr]; decide⟩, fun z => absurd (hr.symm.trans z) (by decide), by rw [hr]; decide, by rw [hr]; decide⟩ (Or.inl (by omega)) gkp (by omega) pls (fun y => ?_) (fun z => absurd (hr.symm.trans z) (by decide)) (by rw [hr]; decide) (fun k y => ?_) ?_ (fun y => ?_) ⟨fun _ => ⟨show X.o c1.2.1 2 = x40.2.i 38 by rw [v2, i38']; exact oX2, by rw [r9]; exact n59⟩, fun y => by rcases y with y | y | y | y <;> rw [hr] at y <;> exact absurd y (by decide), by omega, fun z => absurd (hr.symm.trans z) (by decide), by rw [hr]; decide⟩ (fun nm G' ω j _ ng fr wn hc' hh => ?_) (fun FC SF nm X' G' col YJ ω j Z _ hω r12 hc' hh k jr' cur => ?_)
  · rcases y with y | y | y | y <;> rw [hr] at y <;> exact absurd y (by decide)
  · unfold rsite at y
    rw [hr] at y
    rcases y with ⟨y, -⟩ | ⟨y, -⟩ | ⟨y, -⟩ | ⟨y, -⟩
    · rcases y with y | y | y <;> exact absurd y (by decide)
    · exact absurd y (by decide)
    · rcases y with y | y <;> exact absurd y (by decide)
    · rcases y with y | y <;> exact absurd y (by decide)
  · have e1 : rtgs (vw X u c1) = [x40.1] := by
      unfold rtgs
      rw [hr, if_neg (by decide), if_pos (by decide), r9]
    have e2 : ptl [tv x40.1] = [x40.1] := by
      show rtgs (tv x40.1) ++ [] = _
      rw [tv.tgs]
      rfl
    rw [e1]
    exact List.Perm.of_eq e2.symm
  · rcases y with y | y | y | y | y | y <;> rw [hr] at y <;> exact absurd y (by decide)
  · rw [en]
    have n52 : (j.c.length : Int) = (sh.2.i 52).toInt := ng.2.2.1
    have ml := msr_len j.c
    have h9 := (i11_hi hv).2
    have u52' := u52.resolve_right (fun z => z ⟨by omega, by omega⟩)
    refine ⟨ng.push (e := enL j.h) (by rw [aX]; rfl) (by rw [aX]; rfl) rfl rfl ?_ u52' ?_ ?_, hc'.lck (by omega), ?_⟩
    · rw [X38']
      show _ = _ + (if (0 : Nat) ≤ 3 then 1 else 0)
      rw [if_pos (by decide)]
    · show ((frs j.c + (if (0 : Nat) ≤ 3 then 1 else 0) : Nat) : Int) ≤ _
      rw [if_pos (by decide)]
      omega
    · exact (ng.2.2.2.d d38X D52.s52).cons (show ¬ (0 : Nat) = 2 by decide) (show ¬ (0 : Nat) = 4 by decide)
    · show ((2 * j.h + ((j.c.length + 1) + 3 * (ops j.c + 0)) : Nat) : Int) ≤ _
      have : ((2 * j.h + (j.c.length + 3 * ops j.c) : Nat) : Int) ≤ (s.i 11).toInt := hh
      omega
  · rw [en, jl, pcX, pru] at cur
    have e9 : ω + (j.l + 1264) - pcC P = ω + j.l + 1264 - pcC P := by omega
    have c2 := (cur (R36.trans w3.2.2.2.2.2.1.2.2.2)).1
    rw [e9] at c2
    exact ⟨k c2, JHH.no (by rw [hr]; decide)⟩
set_option maxHeartbeats 4000000 in
theorem st_lock {N : Nat} (hN : 1000 ≤ N) {d : Int32} {B : CS} {b : RS} {t0 T n : Nat} {L : List CEL} {x : Int} {S : CS} {s U : RS} {c : CEL} {p R : Unit × CS} {A : JBA} (hC : COR d B b t0 (c :: L) x S s) (hS : STO c T S s) (hT : t0 ≤ T) (hm : NMC c S) (hx : S.o c.2.1 0 = 303 → x = -1) (h43 : S.i 43 = 212) (e1 : f_X0_add N (CS.setI (CS.setI S 36 1) 24 ((S.i 24) + 1)) 51 0 = some p) (e : f_X7_beginLock N p.2 = some R) (g : f_X12_parse_10 N n s = some U) : (¬ R.2.i 32 = 0 ∧ ¬ U.i 15 = 0) ∨ ∃ (m : Nat) (u : RS), f_X12_parse_10 N m u = some U ∧ NEW d B b t0 c L R.2 u (JTR A U B b (c :: L) S s) := by
  obtain ⟨q1, q2, q3, q4, q5, q6⟩ := id hS
  have hv := hC.1
  have k10 := (tk_is hv (a := 212) (b := 422) (Or.inr ⟨by decide, by decide⟩) (by decide)).mp h43
  obtain ⟨m1, s1, g1, w0, a64, a65, i43, i10, ph3, i21, i11, jst⟩ := st_gj hC hS k10 (Or.inr (Or.inr (Or.inr (Or.inr (Or.inl ⟨rfl, rfl⟩))))) (by decide) e1 g
  unfold f_X7_beginLock at e
  obtain ⟨x1, ex1, e⟩ := hf_bind e
  obtain ⟨x5, ex5, e⟩ := hf_bind e
  obtain ⟨x9, ex9, e⟩ := hf_bind e
  have f58 : ∀ Y : CS, f_X7_beginLock_58 N Y = some R → ¬ Y.i 32 = 0 → ¬ R.2.i 32 = 0 := fun Y h z => by
    rw [kF_X7_beginLock_58 N Y R h z]
    exact z
  have cls : (x5.2.i 43 = 3 ∧ ∃ (x45 x49 : Unit × CS), f_X0_add N x5.2 53 (x5.2.i 45) = some x45 ∧ f_X9_advance N x45.2 = some x49 ∧ f_X7_beginLock_58 N x49.2 = some R) ∨ (¬ x5.2.i 43 = 3 ∧ ∃ (x14 x18 : Unit × CS), f_X1_expect N x5.2 224 = some x14 ∧ f_X7_throwNull N x14.2 = some x18 ∧ f_X7_beginLock_58 N x18.2 = some R) := by
    by_cases c3 : x5.2.i 43 = 3
    · rw [e_fnd1 c3] at ex9
      cases ex9
      rw [if_neg n10] at e
      obtain ⟨x45, ex45, e⟩ := hf_bind e
      obtain ⟨x49, ex49, e⟩ := hf_bind e
      exact Or.inl ⟨c3, x45, x49, ex45, ex49, e⟩
    · rw [e_fnd0 c3] at ex9
      cases ex9
      rw [if_pos rfl] at e
      obtain ⟨x14, ex14, e⟩ := hf_bind e
      obtain ⟨x18, ex18, e⟩ := hf_bind e
      exact Or.inr ⟨c3, x14, x18, ex14, ex18, e⟩
  have f5 : ¬ x5.2.i 32 = 0 → ¬ R.2.i 32 = 0 := fun z => by
    rcases cls with ⟨-, x45, x49, h1, h2, h3⟩ | ⟨-, x14, x18, h1, h2, h3⟩
    · have z1 : ¬ x45.2.i 32 = 0 := by rw [fst_add h1]; exact z
      refine f58 _ h3 ?_
      rw [kF_X9_advance N x45.2 x49 h2 z1]
      exact z1
    · have z1 : ¬ x14.2.i 32 = 0 := by rw [kF_X1_expect N x5.2 224 x14 h1 z]; exact z
      refine f58 _ h3 ?_
      rw [kF_X7_throwNull N x14.2 x18 h2 z1]
      exact z1
  -- the reference
  obtain ⟨m2, V, hV, g2⟩ := rl_13 g1 w0.2.1 w0.1.1.2.1 a64
  unfold f_X12_lock at hV
  obtain ⟨-, hV⟩ := hf_ite hV
  rw [tp_nat w0.2.1, if_pos a65] at hV
  obtain ⟨q, hq, hV⟩ := hf_bind hV
  obtain ⟨r, hr, hV⟩ := hf_bind hV
  have nz : ¬ p.2.i 43 = 0 := by rw [i43, h43]; decide
  obtain ⟨w2, f2⟩ := w0.nx hN nz ex1 hq
  have b94 : ∀ y : RS, f_X12_lock_94 N y = some V → ¬ y.i 15 = 0 → ¬ V.i 15 = 0 := fun y h z => krf_f_X12_lock_94 N y V h z
  rcases w2.op hN (c := 40) (e := 40) (Or.inl ⟨by decide, by decide⟩) (by decide) (by decide) (by decide) ex5 hr with ⟨o1, o2, o3⟩ | ⟨o1, w3, f3⟩
  · refine Or.inl ⟨f5 o2, u_flt g2 ?_⟩
    by_cases d1 : r.2.i 10 = 3
    · rw [if_pos d1, can_f o3, ob_some, if_pos rfl] at hV
      exact b94 _ hV o3
    · rw [if_neg d1] at hV
      by_cases d2 : r.2.i 10 = 434
      · rw [if_pos d2, can_f o3, ob_some, if_pos rfl] at hV
        exact b94 _ hV o3
      · rw [if_neg d2, can_f o3, ob_some, if_pos rfl] at hV
        exact b94 _ hV o3
  obtain ⟨ft2, -⟩ := FRB.ft (T := T) f2
  obtain ⟨ft3, -⟩ := FRB.ft (T := T) f3
  have ft := ft2.tr ft3
  have j4 : KU3 U s → JRW A U B b (vws S s (c :: L)) S s → JRG A U B b (vws S s (c :: L)) s [] (JQG U 1264 0 1 (pcC x5.2) (pcR r.2) JQZ) (-2) (-2) x5.2 r.2 := fun ku jw => by
    have z1 := jst.go jw (e := 1) (Or.inl rfl) hv.2.1.1
    have z2 := (z1.adw hN w0.1 (by rw [i43, h43]; decide) ex1 hq).opn hN w2.1 (c := 40) (c' := 40) (Or.inl ⟨by decide, by decide⟩) (by decide) (by decide) (by decide) ex5 hr o1
    have pc1 : pcC x5.2 = pcC p.2 := (pcC.pe (ke_X1_open N x1.2 40 x5 ex5)).trans (pcC.pe (ke_X9_advance N p.2 x1 ex1))
    have pr1 : pcR r.2 = pcR s1 := (pcR.qe (kre_f_X12_open N q 40 r hr)).trans (pcR.qe (kre_f_X12_next N s1 q hq))
    exact z2.imp (by omega) (by omega) (fun _ _ _ _ _ _ _ _ _ _ _ _ _ k => by rw [pc1, pr1]; exact k)
  have g44 : (x5.2.i 44).toInt = (r.2.i 11).toInt := by rw [w3.1.p44.1]
  have g6 := (i11_hi w3.1).2
  have r20 := w3.1.p20
  have s19 := hv.2.2.1.2.2
  have i3 := tk_is w3.1 (a := 3) (b := 3) (Or.inl ⟨by decide, by decide⟩) (by decide)
  have i434 := tk_is w3.1 (a := 224) (b := 434) (Or.inr ⟨by decide, by decide⟩) (by decide)
  have np3 := w3.2.2.2.2.2.2.1.2.1
  rcases cls with ⟨c3, x45, x49, h1, h2, h3⟩ | ⟨c3, x14, x18, h1, h2, h3⟩
  · have k3 := i3.mp c3
    rw [if_pos k3, y_can1 w3.1.1.2.1 (by rw [k3]; decide), ob_some, if_neg n10] at hV
    have hV' : f_X12_lock_50 N r.2 = some V := hV
    unfold f_X12_lock_50 f_X12_lock_90 at hV'
    rw [if_neg (show ¬ r.2.i 10 = 434 by rw [k3]; decide)] at hV'
    obtain ⟨em, hem, hV'⟩ := hf_bind hV'
    obtain ⟨nx, hnx, hV'⟩ := hf_bind hV'
    obtain ⟨w4, f4, -, -, -⟩ := (w3.ad h1).em (by omega) hem
    have z43 : x45.2.i 43 = 3 := (pj2_eq (kd_X0_add N x5.2 53 _ x45 h1)).2.2.2.2.2.2.2.1.trans c3
    obtain ⟨w5, f5'⟩ := w4.nx hN (by rw [z43]; decide) h2 hnx
    obtain ⟨ft4, -⟩ := FRB.ft (T := T) f4
    obtain ⟨ft5, -⟩ := FRB.ft (T := T) f5'
    have v45 : x5.2.i 45 = r.2.i 14 := w3.1.1.2.2.2.1.2.2.2.2.2 (Or.inr (Or.inl c3))
    exact lk_58 hN hC q1 q2 q3 hT hm hx (w5.nu (by omega) (by omega) (by omega) (by omega) (by omega)) (fun ku jw => by
      have z1 := (j4 ku jw).one (K' := JQN U 1264 enL (pcC x45.2) (pcR em.2) JQZ) h1 (by omega) (by omega) hem ⟨r20.1, by omega⟩ (fun FC SF nm X ω j Z pq a1 a2 b1 b2 b3 c1 c2 ng hc hh tyc tl hω k gu => k (by
        have gu' : GU FC SF U nm X (pcC x45.2) (pcR em.2) j.h (ω + j.l + 1264 - pcC x45.2) 0 ((0, j.h, 0, 0, 0, 0, 0) :: j.c) := gu
        rw [c1, c2] at gu'
        have p12 := pq.1
        have f19 := ng.2
        exact gi_UTak (pq.hc hc) pq.2.1 ⟨a1, b1, by rw [a2, b2, v45], rfl, by omega, ω + j.l + 1264 - (pcC x5.2 + 1), by omega, gu'⟩))
      have z2 := z1.adv hN w4.1 (by rw [z43]; decide) h2 hnx
      have pc1 : pcC x49.2 = pcC x45.2 := pcC.pe (ke_X9_advance N x45.2 x49 h2)
      have pr1 : pcR nx = pcR em.2 := pcR.qe (kre_f_X12_next N em.2 nx hnx)
      exact z2.imp (by omega) (by omega) (fun _ _ _ _ _ _ _ _ _ _ _ _ _ k => by rw [pc1, pr1]; exact k)) ((ft.tr (ft4.tr ft5)).1.trans a64) h3 hV' g2
  · have k3 : ¬ r.2.i 10 = 3 := fun z => c3 (i3.mpr z)
    rw [if_neg k3] at hV
    by_cases c4 : x5.2.i 43 = 224
    · have k4 := i434.mp c4
      rw [if_pos k4, y_can1 w3.1.1.2.1 (by rw [k4]; decide), ob_some, if_neg n10] at hV
      have hV' : f_X12_lock_50 N r.2 = some V := hV
      unfold f_X12_lock_50 f_X12_lock_90 at hV'
      rw [if_pos k4] at hV'
      obtain ⟨em, hem, hV'⟩ := hf_bind hV'
      obtain ⟨nx, hnx, hV'⟩ := hf_bind hV'
      have ea := e_exp1 c4 h1
      obtain ⟨w4, f4, -, -, -⟩ := w3.em (by omega) hem
      obtain ⟨w5, f5'⟩ := w4.nx hN (by rw [c4]; decide) ea hnx
      unfold f_X7_throwNull at h2
      obtain ⟨t1, et1, h2⟩ := hf_bind h2
      obtain ⟨t2, et2, h2⟩ := hf_bind h2
      cases h2
      obtain ⟨ft4, -⟩ := FRB.ft (T := T) f4
      obtain ⟨ft5, -⟩ := FRB.ft (T := T) f5'
      exact lk_58 hN hC q1 q2 q3 hT hm hx (((w5.ad et1).ad et2).nu (by omega) (by omega) (by omega) (by omega) (by omega)) (fun ku jw => by
        have z1 := (j4 ku jw).emt hem ⟨r20.1, by omega⟩
        have z2 := z1.adw hN w4.1 (by rw [c4]; decide) ea hnx
        have g44' : (x14.2.i 44).toInt = (nx.i 11).toInt := by rw [w5.1.p44.1]
        have g6' := (i11_hi w5.1).2
        have i1 : t1.2.i 44 = x14.2.i 44 := by
          unfold f_X0_add at et1
          cases et1
          rfl
        have z3 := (z2.add et1 (by omega) (by omega)).add et2 (by rw [i1]; omega) (by omega)
        have pc1 : pcC x14.2 = pcC x5.2 := pcC.pe (ke_X1_expect N x5.2 224 x14 h1)
        have k3' := ku.2
        exact z3.imp (by omega) (by omega) (fun FC SF nm X ω j Z hc hh tyc tl hω r12 k _ => by
          obtain ⟨⟨s1', s2', s3', s4'⟩, ⟨t1', t2', t3', t4'⟩, ⟨u1, u2, u3, u4, u5⟩, kk⟩ := k
          rw [t4'] at s1' s2' s3'
          rw [pc1] at s1' s2' s3' t1' t2' t3'
          have pq : PQX SF U (pcC x5.2) (pcR r.2) := ⟨t3', u4⟩
          have h9 := (i11_hi hv).2
          have e1' : (1 : Int32).toInt = 1 := by decide
          exact kk (gi_URa0 (pq.hc hc) pq.2.1 ⟨ω + j.t, by omega, by omega, tyc, t1', t2', s1', s3', u1, by rw [s2', u2], by rw [s2', e1']; omega, by rw [s2', e1']; omega⟩))) ((ft.tr (ft4.tr ft5)).1.trans a64) h3 hV' g2
    · have k4 : ¬ r.2.i 10 = 434 := fun z => c4 (i434.mpr z)
      rw [if_neg k4] at hV
      obtain ⟨ff, hf, hV⟩ := hf_bind hV
      obtain ⟨fa, fb⟩ := y_can0 hf
      rw [if_pos fa] at hV
      refine Or.inl ⟨f58 _ h3 ?_, u_flt g2 (b94 _ hV fb)⟩
      have z1 := y_ex0 c4 h1
      rw [kF_X7_throwNull N x14.2 x18 h2 z1]
      exact z1
