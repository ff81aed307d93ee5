section
/-! both readers: one turn -/
/-- the base's frame -/
def BTL (B : CS) (t0 : Nat) : List CEL → Prop
  | [] => False
  | [c] => t0 + 1 = ceT c + wid (B.o c.2.1 0)
  | _ :: c0 :: L => BTL B t0 (c0 :: L)
theorem BTL.at {B : CS} {b : RS} {S : CS} {s : RS} {t0 : Nat} (cb : CBB B S) : ∀ (L : List CEL) (c : CEL) (m e k : Int), BTL B t0 (c :: L) → BAZ B b (c :: L) → STK S s (c :: L) m e k → t0 + 1 ≤ ceT c + wid (S.o c.2.1 0)
  | [], c, m, e, k, h, bz, st => by
    obtain ⟨-, -, -, -, -, ⟨h7, h8, -⟩, -⟩ := bz
    rw [(cb.2.1 c.1 c.2.1 (by omega) h8).1]
    have h' : t0 + 1 = ceT c + wid (B.o c.2.1 0) := h
    omega
  | c0 :: L, c, m, e, k, h, bz, st => by
    obtain ⟨m', e', k', g1, g2, g3⟩ := st
    obtain ⟨l1, -⟩ := g2 c0 rfl
    have z := BTL.at cb L c0 m' e' k' h bz g3
    have := l1.2.1
    omega
theorem BTL.up {B : CS} {b : RS} {S : CS} {s : RS} {t0 : Nat} {L : List CEL} {c1 c : CEL} {m e k : Int} (cb : CBB B S) (h : BTL B t0 (c1 :: c :: L)) (bz : BAZ B b (c1 :: c :: L)) (st : STK S s (c1 :: c :: L) m e k) : t0 ≤ ceT c1 := by
  obtain ⟨m', e', k', g1, g2, g3⟩ := st
  obtain ⟨l1, -⟩ := g2 c rfl
  have z := BTL.at cb L c m' e' k' h bz g3
  have := l1.2.1
  omega
/-- the base is a list of its own -/
theorem BAZ.srt {B : CS} {b : RS} {S : CS} {c : CEL} (cb : CBB B S) (bz : BAZ B b [c]) : S.o c.2.1 0 = 300 ∨ S.o c.2.1 0 = 302 := by
  obtain ⟨-, -, -, -, -, ⟨h7, h8, -⟩, h9⟩ := bz
  rw [(cb.2.1 c.1 c.2.1 (by omega) h8).1]
  rcases h9 with ⟨-, z⟩ | ⟨-, -, z⟩
  · exact Or.inr z
  · exact Or.inl z
/-- what stands between two turns -/
def STI (Aj : JBA) (U : RS) (d : Int32) (B : CS) (b : RS) (t0 : Nat) (S : CS) (s : RS) (c : CEL) (L : List CEL) : Prop := ∃ x : Int, COR d B b t0 (c :: L) x S s ∧ TOP S s c ∧ MOD c S s ∧ BAZ B b (c :: L) ∧ BTL B t0 (c :: L) ∧ (MBO c S s → x = cod c S s) ∧ JRX Aj U B b (vws S s (c :: L)) S s
/-- what comes of a turn -/
def TOU (Aj : JBA) (N : Nat) (d : Int32) (B : CS) (b : RS) (t0 : Nat) (R : CS) (U : RS) : Prop := (¬ R.i 32 = 0 ∧ ¬ U.i 15 = 0) ∨ DMD d B R U ∨ NDM B R U ∨ ∃ (m : Nat) (u : RS) (c : CEL) (L : List CEL), f_X12_parse_10 N m u = some U ∧ STI Aj U d B b t0 R u c L
theorem MOR.mod {c : CEL} {S : CS} {s : RS} (h : MOR c S s) : MOD c S s := by
  obtain ⟨h | h, h36⟩ := h
  · exact ⟨Or.inl h, h36⟩
  · exact ⟨Or.inr (Or.inr (Or.inl h)), h36⟩
theorem POPD.sti {d : Int32} {B : CS} {b : RS} {t0 : Nat} {c : CEL} {L : List CEL} {R : CS} {u U : RS} {Aj : JBA} (h : POPD d B b t0 c L R u) (hj : JRX Aj U B b (vws R u (c :: L)) R u) (bz : BAZ B b (c :: L)) (bt : BTL B t0 (c :: L)) : STI Aj U d B b t0 R u c L := by
  obtain ⟨h1, h2, h3⟩ := h
  refine ⟨_, h1, h2, h3.mod, bz, bt, fun z => ?_, hj⟩
  exfalso
  obtain ⟨z1, z2, -⟩ := z
  rcases h3.1 with y | y
  · exact y.1 z1
  · rw [y.2.1] at z2
    exact absurd z2 (by decide)
theorem NEW.sti {d : Int32} {B : CS} {b : RS} {t0 : Nat} {c : CEL} {L : List CEL} {R : CS} {u U : RS} {Aj : JBA} {J : List RVW → CS → RS → Prop} (h : NEW d B b t0 c L R u J) (f : ∀ (V : List RVW) (R : CS) (u : RS), J V R u → JRX Aj U B b V R u) (bz : BAZ B b (c :: L)) (bt : BTL B t0 (c :: L)) : ∃ c1 : CEL, STI Aj U d B b t0 R u c1 (c :: L) := by
  obtain ⟨c1, h1, h2, h3, h4⟩ := h
  exact ⟨c1, _, h1, h2, h3, bz, bt, fun _ => rfl, f _ _ _ h4⟩
theorem tou_new {N : Nat} {d : Int32} {B : CS} {b : RS} {t0 : Nat} {c : CEL} {L : List CEL} {R : CS} {U : RS} {Aj : JBA} {J : List RVW → CS → RS → Prop} (f : ∀ (V : List RVW) (R : CS) (u : RS), J V R u → JRX Aj U B b V R u) (bz : BAZ B b (c :: L)) (bt : BTL B t0 (c :: L)) (h : ∃ (m : Nat) (u : RS), f_X12_parse_10 N m u = some U ∧ NEW d B b t0 c L R u J) : TOU Aj N d B b t0 R U := by
  obtain ⟨m, u, g, h⟩ := h
  obtain ⟨c1, h⟩ := h.sti f bz bt
  exact Or.inr (Or.inr (Or.inr ⟨m, u, c1, c :: L, g, h⟩))
theorem tou_pop {N : Nat} {d : Int32} {B : CS} {b : RS} {t0 : Nat} {c : CEL} {L : List CEL} {R : CS} {U : RS} {Aj : JBA} {J : List RVW → CS → RS → Prop} (f : ∀ (V : List RVW) (R : CS) (u : RS), J V R u → JRX Aj U B b V R u) (bz : BAZ B b (c :: L)) (bt : BTL B t0 (c :: L)) (h : ∃ (m : Nat) (u : RS), f_X12_parse_10 N m u = some U ∧ POPD d B b t0 c L R u ∧ J (vws R u (c :: L)) R u) : TOU Aj N d B b t0 R U := by
  obtain ⟨m, u, g, h, hj⟩ := h
  exact Or.inr (Or.inr (Or.inr ⟨m, u, c, L, g, h.sti (f _ _ _ hj) bz bt⟩))
theorem tou_outs {N : Nat} {d : Int32} {B : CS} {b : RS} {t0 T : Nat} {c : CEL} {L : List CEL} {x : Int} {R : CS} {U : RS} {Aj : JBA} {J : List RVW → CS → RS → Prop} (f : ∀ (V : List RVW) (R : CS) (u : RS), J V R u → JRX Aj U B b V R u) (bz : BAZ B b (c :: L)) (bt : BTL B t0 (c :: L)) (h : OUTS N d B b t0 T c L x R U J) : TOU Aj N d B b t0 R U := by
  rcases h.pop with z | z | z | z
  · exact Or.inl z
  · exact Or.inr (Or.inl z)
  · exact tou_new f bz bt z
  · exact tou_pop f bz bt z
/-- a turn, but for the end of the base's row -/
theorem tn_one {N : Nat} (hN : 1000 ≤ N) {E1 : CS → Option (Unit × CS)} {E2 : CS → Option (Int32 × CS)} (hm1 : ∀ σ, Kf (CS.i σ 32) (E1 σ)) (hm2 : ∀ σ, Kf (CS.i σ 32) (E2 σ)) (hE : SXR N 18 E1) (hE2 : SXN N 22 E2) {d : Int32} {B : CS} {b : RS} {t0 n : Nat} {L : List CEL} {S : CS} {s U : RS} {c : CEL} {P : Unit × CS} {Aj : JBA} (hY : YBA Aj U B b) (mA : JBM U Aj) (hU : KU3 U b) (h : STI Aj U d B b t0 S s c L) (nb : L = [] → ¬ S.i 43 = 125 ∧ ¬ S.i 43 = 0 ∧ ¬ S.i 43 = 219 ∧ ¬ S.i 43 = 220) (k : KTN N E1 E2 S c.2.1 P) (g : f_X12_parse_10 N n s = some U) : TOU Aj N d B b t0 P.2 U := by
  obtain ⟨x, hC, tp, ⟨hM, h36⟩, bz, bt, hx, jx⟩ := h
  have ku : KU3 U s := hC.ku3 hU
  have fj : ¬ S.o c.2.1 0 = 305 → ∀ (V : List RVW) (R : CS) (u : RS), JTR Aj U B b (c :: L) S s V R u → JRX Aj U B b V R u := fun n5 V R u h => (h ku (jx.w n5)).x
  have hv := hC.1
  have cb := hC.2.2.2.2.1
  have k9 := tk_is hv (a := 219) (b := 429) (Or.inr ⟨by decide, by decide⟩) (by decide)
  have k0 := tk_is hv (a := 220) (b := 430) (Or.inr ⟨by decide, by decide⟩) (by decide)
  have k5 := tk_is hv (a := 125) (b := 125) (Or.inl ⟨by decide, by decide⟩) (by decide)
  have btL := BTL.at cb L c _ _ _ bt bz hC.2.1
  have wd1 := wid1 (S.o c.2.1 0)
  have n1s : ∀ v : Int32, S.o c.2.1 0 = v → isOne (S.o c.2.1 0) → isOne v := fun v z q => by rw [← z]; exact q
  -- a statement of the list on top
  have lst : MLI c S s → ¬ S.i 43 = 125 → ¬ S.i 43 = 0 → ¬ S.i 43 = 219 → ¬ S.i 43 = 220 → f_X7_statement N E1 E2 S 0 = some P → TOU Aj N d B b t0 P.2 U := fun hL t1 t2 t3 t4 e =>
    tou_outs (fj hL.2.1) bz bt (tn_list hN hm1 hm2 hE hE2 hY hC tp hL h36 bz (T0 := ceT c + wid (S.o c.2.1 0) - 1) (by omega) (by omega) t1 t3 t4 t2 e g)
  cases L with
  | nil =>
    have so := BAZ.srt cb bz
    obtain ⟨t1, t2, t3, t4⟩ := nb rfl
    have no : ¬ isOne (S.o c.2.1 0) := fun q => by
      rcases so with z | z <;> rw [z] at q <;> unfold isOne at q <;> exact absurd q (by decide)
    have n8 : ¬ S.o c.2.1 0 = 218 := by rcases so with z | z <;> rw [z] <;> decide
    have n5 : ¬ S.o c.2.1 0 = 305 := by rcases so with z | z <;> rw [z] <;> decide
    have hL : MLI c S s := by
      rcases hM with z | z | z | z | z
      · exact z
      · exact absurd z.1 no
      · exact absurd z.1 no
      · exact absurd z.1 n8
      · exact absurd z.1 n5
    rcases k with ⟨z, -⟩ | ⟨⟨z, -⟩, -⟩ | ⟨⟨z, -⟩, -⟩ | ⟨-, z, -⟩ | ⟨⟨-, z⟩, -⟩ | ⟨-, -, k⟩
    · exact absurd z no
    · exact absurd z n5
    · exact absurd z n5
    · rcases z with z | z
      · exact absurd z t1
      · exact absurd z t2
    · exact absurd z n8
    · exact lst hL t1 t2 t3 t4 k
  | cons c2 L2 =>
    have hT : t0 ≤ ceT c := BTL.up cb bt bz hC.2.1
    have bz2 : BAZ B b (c2 :: L2) := bz
    have bt2 : BTL B t0 (c2 :: L2) := bt
    have ks : isKS (S.o c.2.1 0) := by
      obtain ⟨m', e', k', g1, g2, g3⟩ := id hC.2.1
      exact (g2 c2 rfl).1.2.2.2.2.2.2.2.2
    rcases k with ⟨one, k⟩ | ⟨⟨z, t⟩, k⟩ | ⟨⟨z, t⟩, k⟩ | ⟨⟨no, n5⟩, t, k⟩ | ⟨⟨no, z8⟩, ⟨t1, t0'⟩, k⟩ | ⟨⟨no, n5, n8⟩, ⟨t1, t0'⟩, k⟩
    · -- one body
      have n8 : ¬ S.o c.2.1 0 = 218 := fun z => absurd (n1s _ z one) (by unfold isOne; decide)
      have n5 : ¬ S.o c.2.1 0 = 305 := fun z => absurd (n1s _ z one) (by unfold isOne; decide)
      rcases hM with z | z | z | z | z
      · exact absurd one z.1
      · rw [hx z] at hC
        exact tou_outs (fj n5) bz bt (tn_body (x := 0) hN hm1 hm2 hE hE2 hY hC tp z bz hT k g)
      · by_cases q : S.o c.2.1 0 = 203 ∧ S.i 43 = 204
        · unfold f_X7_bodyTurn at k
          obtain ⟨-, k⟩ := hf_ite k
          rw [if_neg (by rw [z.2.1]; decide)] at k
          rcases en_if1 hN mA hC tp z h36 q.1 q.2 bz hT (ob_un k) g with w | w
          · exact Or.inr (Or.inl w)
          · exact tou_new (fj n5) bz2 bt2 w
        · rcases tn_end hN hm1 hm2 hE2 mA hC tp z h36 bz hT q k g with w | w
          · exact Or.inl w
          · exact tou_pop (fj n5) bz2 bt2 w
      · exact absurd z.1 n8
      · exact absurd z.1 n5
    · -- catch
      have hG : MGU c S s := by
        rcases hM with y | y | y | y | y
        · exact absurd z y.2.1
        · exact absurd (n1s _ z y.1) (by unfold isOne; decide)
        · exact absurd (n1s _ z y.1) (by unfold isOne; decide)
        · rw [y.1] at z
          exact absurd z (by decide)
        · exact y
      rcases bg_catch hN hC tp hG t bz hT k g with w | w
      · exact Or.inl w
      · exact tou_new (fun V R u h => (h jx).x) bz2 bt2 w
    · -- finally
      have hG : MGU c S s := by
        rcases hM with y | y | y | y | y
        · exact absurd z y.2.1
        · exact absurd (n1s _ z y.1) (by unfold isOne; decide)
        · exact absurd (n1s _ z y.1) (by unfold isOne; decide)
        · rw [y.1] at z
          exact absurd z (by decide)
        · exact y
      rcases bg_fin hN hC tp hG t bz hT k g with w | w
      · exact Or.inl w
      · exact tou_new (fun V R u h => (h jx).x) bz2 bt2 w
    · -- a list's end
      have hL : MLI c S s ∨ MSW c S s := by
        rcases hM with y | y | y | y | y
        · exact Or.inl y
        · exact absurd y.1 no
        · exact absurd y.1 no
        · exact Or.inr y
        · exact absurd y.1 n5
      have sl : S.o c.2.1 0 = 301 ∨ S.o c.2.1 0 = 218 ∨ (S.o c.2.1 0 = 213 ∨ S.o c.2.1 0 = 215) ∨ S.o c.2.1 0 = 212 ∨ S.o c.2.1 0 = 216 := by
        rcases ks with y | (y | y | y | y) | y | y | y
        · exact absurd y no
        · exact Or.inr (Or.inr (Or.inl (Or.inl y)))
        · exact Or.inr (Or.inr (Or.inl (Or.inr y)))
        · exact absurd y n5
        · exact Or.inr (Or.inr (Or.inr (Or.inr y)))
        · exact Or.inl y
        · exact Or.inr (Or.inl y)
        · exact Or.inr (Or.inr (Or.inr (Or.inl y)))
      rcases t with t | t
      · rcases tn_lend hN mA hC tp hL h36 sl t bz hT k g with w | w | w | w
        · exact Or.inl w
        · exact Or.inr (Or.inr (Or.inl w))
        · exact tou_new (fun V R u h => h (jx.w n5)) bz2 bt2 w
        · exact tou_pop (fj n5) bz2 bt2 w
      · have nsw : ¬ S.o c.2.1 0 = 218 → MLI c S s := fun q => hL.resolve_right (fun y => q y.1)
        left
        rcases sl with y | y | (y | y) | y | y
        · exact en_blkF hC (nsw (by rw [y]; decide)) h36 y t k g
        · exact en_swF hC hL h36 y t k g
        · exact en_bkF hC (nsw (by rw [y]; decide)) h36 (Or.inr (Or.inl y)) t k g
        · exact en_bkF hC (nsw (by rw [y]; decide)) h36 (Or.inr (Or.inr (Or.inl y))) t k g
        · exact en_bkF hC (nsw (by rw [y]; decide)) h36 (Or.inl y) t k g
        · exact en_bkF hC (nsw (by rw [y]; decide)) h36 (Or.inr (Or.inr (Or.inr y))) t k g
    · -- a group
      have hL : MLI c S s ∨ MSW c S s := by
        rcases hM with y | y | y | y | y
        · exact Or.inl y
        · exact absurd y.1 no
        · exact absurd y.1 no
        · exact Or.inr y
        · rw [y.1] at z8
          exact absurd z8 (by decide)
      by_cases t9 : S.i 43 = 219
      · rcases gr_case hN hC tp hL h36 z8 t9 bz hT k g with w | w
        · exact Or.inl w
        · exact tou_pop (fj (by rw [z8]; decide)) bz bt w
      by_cases t20 : S.i 43 = 220
      · rcases gr_dflt hN hC tp hL h36 z8 t20 bz hT k g with w | w
        · exact Or.inl w
        · exact tou_pop (fj (by rw [z8]; decide)) bz bt w
      unfold f_X7_groupTurn at k
      rw [e_fnd0 t9, ob_some, if_pos rfl, e_fnd0 t20, ob_some, if_pos rfl] at k
      obtain ⟨-, k⟩ := hf_ite k
      rcases hL with hL | hL
      · have o5 := (hL.2.2.2.2.2 z8).2
        rw [if_neg (by rw [o5]; decide)] at k
        exact lst hL t1 t0' t9 t20 (ob_un k)
      · obtain ⟨-, y65, yts, -, o5⟩ := hL
        rw [if_pos o5] at k
        obtain ⟨m1, e1, k1, m2, e2, k2, cst⟩ := STK.mem _ _ _ _ hC.2.1 c List.mem_cons_self
        have f1 := (cst.2.2.1.2.2.2.2.2.2.2.2.2.2.2.1 z8).1
        exact Or.inl ⟨y_misp (ob_un k), sw_flt hv yts f1 y65 (fun q => t1 (k5.mpr q)) (fun q => t9 (k9.mpr q)) (fun q => t20 (k0.mpr q)) g⟩
    · -- a statement
      have hL : MLI c S s := by
        rcases hM with y | y | y | y | y
        · exact y
        · exact absurd y.1 no
        · exact absurd y.1 no
        · exact absurd y.1 n8
        · exact absurd y.1 n5
      have sl : S.o c.2.1 0 = 301 ∨ S.o c.2.1 0 = 212 ∨ S.o c.2.1 0 = 213 ∨ S.o c.2.1 0 = 215 ∨ S.o c.2.1 0 = 216 := by
        rcases ks with y | (y | y | y | y) | y | y | y
        · exact absurd y no
        · exact Or.inr (Or.inr (Or.inl y))
        · exact Or.inr (Or.inr (Or.inr (Or.inl y)))
        · exact absurd y n5
        · exact Or.inr (Or.inr (Or.inr (Or.inr y)))
        · exact Or.inl y
        · exact absurd y n8
        · exact Or.inr (Or.inl y)
      by_cases t9 : S.i 43 = 219
      · exact Or.inl ⟨y_stF (Or.inl (Or.inr (Or.inl t9))) k, li_flt hC hL h36 sl (Or.inl t9) g⟩
      by_cases t20 : S.i 43 = 220
      · exact Or.inl ⟨y_stF (Or.inl (Or.inr (Or.inr t20))) k, li_flt hC hL h36 sl (Or.inr t20) g⟩
      exact lst hL t1 t0' t9 t20 k
end
section
/-! both readers: the loop of turns -/
theorem STI.nf {d : Int32} {B : CS} {b : RS} {t0 : Nat} {S : CS} {s : RS} {c : CEL} {L : List CEL} {Aj : JBA} {U : RS} (h : STI Aj U d B b t0 S s c L) : S.i 32 = 0 ∧ (S.i 53).toInt = (c.1 : Int) + 1 ∧ c.1 < 400 ∧ S.r 51 c.1 = some c.2.1 ∧ (B.i 53).toInt ≤ (c.1 : Int) + 1 := by
  obtain ⟨x, hC, tp, -, bz, -, -, -⟩ := h
  have t1 := tp.1
  obtain ⟨m', e', k', g1, -, -⟩ := id hC.2.1
  obtain ⟨-, -, -, r4, -⟩ := BAZ.all hC.2.2.2.2.1 L c _ _ _ bz hC.2.1 (by omega)
  exact ⟨hC.1.1.1, t1, g1.2.1, g1.1, r4⟩
/-- all turns: both fault, or the base's row has ended -/
theorem tn_loop {N : Nat} (hN : 1000 ≤ N) {E1 : CS → Option (Unit × CS)} {E2 : CS → Option (Int32 × CS)} (hm1 : ∀ σ, Kf (CS.i σ 32) (E1 σ)) (hm2 : ∀ σ, Kf (CS.i σ 32) (E2 σ)) (hE : SXR N 18 E1) (hE2 : SXN N 22 E2) {d : Int32} {B : CS} {b : RS} {t0 n0 : Nat} {x1 : Int32} {U : RS} {Q : CS → Prop} {Aj : JBA} (hY : YBA Aj U B b) (mA : JBM U Aj) (hU : KU3 U b) (hx1 : x1.toInt = (n0 : Int)) (hB : (B.i 53).toInt = (n0 : Int) + 1)
    (hQ : ∀ (S : CS) (s : RS) (c : CEL) (m : Nat) (P : Unit × CS), STI Aj U d B b t0 S s c [] → (S.i 43 = 125 ∨ S.i 43 = 0 ∨ S.i 43 = 219 ∨ S.i 43 = 220) → KTN N E1 E2 S c.2.1 P → f_X12_parse_10 N m s = some U → (¬ P.2.i 32 = 0 ∧ ¬ U.i 15 = 0) ∨ ((¬ P.2.i 32 = 0 ∨ (P.2.i 53).toInt ≤ (n0 : Int)) ∧ Q P.2)) :
    ∀ (n : Nat) (S : CS) (x2 : Int32) (R : Unit × CS), f_X7_turns_2 N E1 E2 n S x1 x2 = some R → ((∃ (m : Nat) (s : RS) (c : CEL) (L : List CEL), f_X12_parse_10 N m s = some U ∧ STI Aj U d B b t0 S s c L) ∨ DMD d B S U ∨ NDM B S U) → (¬ R.2.i 32 = 0 ∧ ¬ U.i 15 = 0) ∨ Q R.2
  | 0, _, _, _, h, _ => by cases h
  | n + 1, S, x2, R, h, hI => by
    have go : ∀ P : Unit × CS, f_X7_turns_2 N E1 E2 n P.2 x1 (x2 + 1) = some R → TOU Aj N d B b t0 P.2 U → (¬ R.2.i 32 = 0 ∧ ¬ U.i 15 = 0) ∨ Q R.2 := fun P h2 z => by
      rcases z with z | z | z | ⟨m, u, c, L, g, z⟩
      · rw [tn_stop h2 (Or.inl z.1)]
        exact Or.inl z
      · exact tn_loop hN hm1 hm2 hE hE2 hY mA hU hx1 hB hQ n P.2 (x2 + 1) R h2 (Or.inr (Or.inl z))
      · exact tn_loop hN hm1 hm2 hE hE2 hY mA hU hx1 hB hQ n P.2 (x2 + 1) R h2 (Or.inr (Or.inr z))
      · exact tn_loop hN hm1 hm2 hE hE2 hY mA hU hx1 hB hQ n P.2 (x2 + 1) R h2 (Or.inl ⟨m, u, c, L, g, z⟩)
    rcases hI with ⟨m, s, c, L, g, hS⟩ | hD | hD
    · obtain ⟨nf, h53, m4, ea, r4⟩ := hS.nf
      obtain ⟨P, k, h2⟩ := tn_step h nf (by omega) h53 m4 ea
      by_cases z : L = [] ∧ (S.i 43 = 125 ∨ S.i 43 = 0 ∨ S.i 43 = 219 ∨ S.i 43 = 220)
      · rw [z.1] at hS
        rcases hQ S s c m P hS z.2 k g with w | ⟨w, q⟩
        · rw [tn_stop h2 (Or.inl w.1)]
          exact Or.inl w
        · rw [tn_stop h2 (w.elim Or.inl (fun y => Or.inr (by omega)))]
          exact Or.inr q
      · exact go P h2 (tn_one hN hm1 hm2 hE hE2 hY mA hU hS (fun q => ⟨fun y => z ⟨q, Or.inl y⟩, fun y => z ⟨q, Or.inr (Or.inl y)⟩, fun y => z ⟨q, Or.inr (Or.inr (Or.inl y))⟩, fun y => z ⟨q, Or.inr (Or.inr (Or.inr y))⟩⟩) k g)
    · obtain ⟨u15, ⟨u, ev, -⟩, -, a, m, h53, ⟨m38, mb⟩, ea, -, -⟩ := id hD
      obtain ⟨P, k, h2⟩ := tn_step h ev.1.1 (by omega) h53 (by omega) ea
      have z := dm_step hD h53 ea k
      rw [tn_stop h2 (Or.inl z)]
      exact Or.inl ⟨z, u15⟩
    · obtain ⟨u15, n1, hn1, hN1⟩ := hD
      obtain ⟨nf, t6, ⟨l1, l2⟩, rows⟩ := id hN1
      obtain ⟨m, hm⟩ : ∃ m : Nat, (S.i 53).toInt = (m : Int) + 1 := ⟨((S.i 53).toInt - 1).toNat, by omega⟩
      obtain ⟨a, ea, -⟩ := rows m (by omega) (by omega)
      obtain ⟨P, k, h2⟩ := tn_step h nf (by omega) hm (by omega) ea
      rcases nd_step hm1 hm2 hN1 hm ea k with z | z
      · rw [tn_stop h2 (Or.inl z)]
        exact Or.inl ⟨z, u15⟩
      · exact go P h2 (Or.inr (Or.inr (Or.inl ⟨u15, n1, hn1, z⟩)))
end
section
/-! both readers: the text's end -/
theorem rl_end {N n : Nat} {s U : RS} (h : f_X12_parse_10 N n s = some U) (ht : tpI s = -1) : U = s := by
  cases n with
  | zero => cases h
  | succ n =>
    have h' : b_X12_parse_10 N (f_X12_parse_10 N n) s = some U := h
    unfold b_X12_parse_10 at h'
    have z : s.i 63 < 0 := Int32.lt_iff_toInt_lt.mpr (by
      rw [z_t0]
      have : (s.i 63).toInt = -1 := ht
      omega)
    rw [if_pos z] at h'
    exact (Option.some.inj h').symm
/-- the code of a whole text: from its first place on all is good -/
def FCD (B : CS) (b : RS) (R : CS) (U : RS) : Prop := CRQB B → SLO b → U.i 18 < 0 → -1 ≤ (b.i 11).toInt → ∃ (FC : Nat → Prop) (M : Nat → Nat → Prop), ((B.i 23).toInt ≤ (R.i 23).toInt ∧ (R.i 23).toInt ≤ 700) ∧ GHM M B b R U ∧ ∀ nm : Nat → Nat → Prop, (∀ k l : Nat, ((B.i 23).toInt ≤ (k : Int) ∧ (k : Int) < (R.i 23).toInt) ∨ ((b.i 42).toInt ≤ (l : Int) ∧ (l : Int) < (U.i 42).toInt) → (nm k l ↔ M k l)) → NMG nm [] B b → GU2 FC R U nm (fun _ _ _ _ _ _ => False) (pcC B) (pcR b) 0 (1300 - pcC B) []
/-- the base of a whole text asks for nothing -/
def RBA : JBA := fun _ _ _ _ _ _ _ => True
/-- at the end: the class's fault, or the same counts -/
def QRT (d : Int32) (B : CS) (b : RS) (U : RS) (R : CS) : Prop := (¬ R.i 32 = 0 ∧ ¬ U.i 10 = 0) ∨ (R.i 32 = 0 ∧ (U.i 15 = 0 ∧ U.i 10 = 0) ∧ (R.i 24 = U.i 53 ∧ R.i 26 = U.i 55 ∧ R.i 25 + d = U.i 54) ∧ (R.i 27 = U.i 75 ∧ (U.i 75 = 0 ∨ U.i 75 = 1)) ∧ (0 ≤ (R.i 37).toInt ↔ 0 ≤ (U.i 18).toInt) ∧ FCD B b R U)
theorem rt_end {N : Nat} (hN : 1000 ≤ N) {E1 : CS → Option (Unit × CS)} {E2 : CS → Option (Int32 × CS)} {d : Int32} {B : CS} {b : RS} {n : Nat} {S : CS} {s U : RS} {c : CEL} {P : Unit × CS} (h : STI RBA U d B b 0 S s c []) (h56 : (B.i 56).toInt = -1) (tk : S.i 43 = 125 ∨ S.i 43 = 0 ∨ S.i 43 = 219 ∨ S.i 43 = 220) (k : KTN N E1 E2 S c.2.1 P) (g : f_X12_parse_10 N n s = some U) : (¬ P.2.i 32 = 0 ∨ (P.2.i 53).toInt ≤ 0) ∧ QRT d B b U P.2 := by
  obtain ⟨x, hC, tp, ⟨hM, h36⟩, bz, bt, -, jx⟩ := h
  have hv := hC.1
  have cb := hC.2.2.2.2.1
  obtain ⟨-, -, -, -, -, ⟨b7, b8, -⟩, b9⟩ := id bz
  have eo := (cb.2.1 c.1 c.2.1 (by omega) b8).1
  have b9' : c.1 = 0 ∧ B.o c.2.1 0 = 300 := by
    rcases b9 with ⟨z, -⟩ | ⟨z1, -, z2⟩
    · rw [h56] at z
      omega
    · exact ⟨z1, z2⟩
  have h300 : S.o c.2.1 0 = 300 := by rw [eo]; exact b9'.2
  have bt' : 0 + 1 = ceT c + wid (B.o c.2.1 0) := bt
  have wd : wid (B.o c.2.1 0) = 1 := by rw [b9'.2]; rfl
  have wdS : wid (S.o c.2.1 0) = 1 := by rw [h300]; rfl
  have t0 : ceT c = 0 := by omega
  have no : ¬ isOne (S.o c.2.1 0) := by rw [h300]; unfold isOne; decide
  have hL : MLI c S s := by
    rcases hM with z | z | z | z | z
    · exact z
    · exact absurd z.1 no
    · exact absurd z.1 no
    · exact absurd (h300.symm.trans z.1) (by decide)
    · exact absurd (h300.symm.trans z.1) (by decide)
  obtain ⟨-, -, ts, h64, hmode, -⟩ := hL
  have ix : ceT c + wid (S.o c.2.1 0) - 1 = 0 := by omega
  rw [ix] at h64 hmode
  have ts' : tpI s = ((0 : Nat) : Int) := by
    rw [ts, wdS, t0]
    rfl
  have k125 := tk_is hv (a := 125) (b := 125) (Or.inl ⟨by decide, by decide⟩) (by decide)
  have k9 := tk_is hv (a := 219) (b := 429) (Or.inr ⟨by decide, by decide⟩) (by decide)
  have k20 := tk_is hv (a := 220) (b := 430) (Or.inr ⟨by decide, by decide⟩) (by decide)
  have k0 := tk_is hv (a := 0) (b := 0) (Or.inl ⟨by decide, by decide⟩) (by decide)
  have h10 : s.i 10 = 125 ∨ s.i 10 = 429 ∨ s.i 10 = 430 ∨ s.i 10 = 0 := by
    rcases tk with z | z | z | z
    · exact Or.inl (k125.mp z)
    · exact Or.inr (Or.inr (Or.inr (k0.mp z)))
    · exact Or.inr (Or.inl (k9.mp z))
    · exact Or.inr (Or.inr (Or.inl (k20.mp z)))
  obtain ⟨m0, V, g0, n1, n2, -, -, n5, -, n7, -, -, -, -, ni, na, -⟩ := y_lend hv ts' h64 hmode h36 h10 g
  have eU : U = V := rl_end g0 (by rw [n2]; rfl)
  rw [← eU] at n1 n5 n7 ni na
  have u10 : ¬ S.i 43 = 0 → ¬ U.i 10 = 0 := fun z q => z (k0.mpr (by rw [← n7]; exact q))
  rcases k with ⟨z, -⟩ | ⟨⟨z, -⟩, -⟩ | ⟨⟨z, -⟩, -⟩ | ⟨-, z, k⟩ | ⟨⟨-, z⟩, -⟩ | ⟨-, ⟨q1, q2⟩, k⟩
  · exact absurd z no
  · exact absurd (h300.symm.trans z) (by decide)
  · exact absurd (h300.symm.trans z) (by decide)
  · unfold f_X7_endList at k
    obtain ⟨-, k⟩ := hf_ite k
    rw [if_pos h300] at k
    obtain ⟨p53, e53, k⟩ := hf_bind k
    obtain ⟨-, k⟩ := hf_ite k
    obtain ⟨p58, e58, k⟩ := hf_bind k
    have ep := ob_un k
    have kd := kd_X0_add N _ _ _ p58 e58
    have f58 : p58.2.i 32 = p53.2.i 32 := (fst_add e58).trans (ci_ne _ _ _ (by decide))
    by_cases c0 : S.i 43 = 0
    · -- the end
      unfold f_X1_expect at e53
      rw [e_fnd1 c0, ob_some, if_neg n10] at e53
      have ea := ob_un e53
      obtain ⟨w, ew, adv⟩ := q_advance hN hv.1.2.2.2.2.2.2.2 hv.1.2.2.2.2.2.2.1
      have ewp : w = p53 := Option.some.inj (ew.symm.trans ea)
      rw [ewp] at adv
      have ai := adv.1.2
      have pe := pj_eq (pj2_eq kd).1
      obtain ⟨-, -, -, -, -, -, j24, j25, j26, j27, j36, j37, -, -, j53, -⟩ := pe
      have g24 : p58.2.i 24 = S.i 24 := j24.trans ((ci_ne _ _ _ (by decide)).trans (ai 24 (by decide) (by decide) (by decide) (by decide)))
      have g25 : p58.2.i 25 = S.i 25 := j25.trans ((ci_ne _ _ _ (by decide)).trans (ai 25 (by decide) (by decide) (by decide) (by decide)))
      have g26 : p58.2.i 26 = S.i 26 := j26.trans ((ci_ne _ _ _ (by decide)).trans (ai 26 (by decide) (by decide) (by decide) (by decide)))
      have g27 : p58.2.i 27 = S.i 36 := by
        rw [j27, ci_at]
        exact ai 36 (by decide) (by decide) (by decide) (by decide)
      have g37 : p58.2.i 37 = S.i 37 := j37.trans ((ci_ne _ _ _ (by decide)).trans (ai 37 (by decide) (by decide) (by decide) (by decide)))
      have g53 : p58.2.i 53 = S.i 53 := j53.trans ((ci_ne _ _ _ (by decide)).trans (ai 53 (by decide) (by decide) (by decide) (by decide)))
      have g32 : p58.2.i 32 = 0 := (f58.trans (ai 32 (by decide) (by decide) (by decide) (by decide))).trans hv.1.1
      have t1 := tp.1
      have s1 : (S.i 53 - 1).toInt = 0 := by
        have z := m1_int t1
        rw [z]
        omega
      unfold f_X6_pop at ep
      rw [g53, if_neg (show ¬ (0 : Int32) < S.i 53 - 1 from fun q => by
        have := lt_int q
        rw [z_t0, s1] at this
        omega)] at ep
      have eP : P.2 = CS.setI p58.2 53 0 := by rw [← Option.some.inj ep]
      have Pi : ∀ j : Nat, j ≠ 53 → P.2.i j = p58.2.i j := fun j hj => by rw [eP, ci_ne _ _ _ hj]
      have cns := n1.2.2.2.1
      refine ⟨Or.inr ?_, Or.inr ⟨?_, ⟨n1.1.2.1, ?_⟩, ⟨?_, ?_, ?_⟩, ⟨?_, ?_⟩, ?_, ?_⟩⟩
      · rw [eP, ci_at, z_t0]
        exact Int.le_refl _
      · rw [Pi 32 (by decide)]
        exact g32
      · rw [n7]
        exact k0.mp c0
      · rw [Pi 24 (by decide), g24]
        exact cns.1
      · rw [Pi 26 (by decide), g26]
        exact cns.2.1
      · rw [Pi 25 (by decide), g25]
        exact cns.2.2
      · rw [Pi 27 (by decide), g27, n5]
      · rw [n5]
        exact h36
      · rw [Pi 37 (by decide), g37]
        exact n1.2.2.2.2.1
      · intro crB slb u18 b11
        have jw := jx.w (by rw [h300]; decide)
        obtain ⟨⟨e', he', k1⟩, -, k3, Ψ, G, col, YJ, sax, -, -, -, main⟩ := jw crB
        obtain ⟨-, F, M, ghm, hM'⟩ := sax slb
        have h9 := (i11_hi hv).2
        have r1 := (crB.rms k1).1
        have k44 := hv.p44.1
        have pe53 := ke_X9_advance N S p53 ea
        obtain ⟨A20, A15, A16, A17, A23, A38, A22, A19⟩ := pe_eq pe53
        obtain ⟨a1, a2, a3, a4, a5, -⟩ := ad_eq e58
        have i20 : (CS.setI p53.2 27 (p53.2.i 36)).i 20 = S.i 20 := by rw [ci_ne _ _ _ (by decide), A20]
        have i23 : P.2.i 23 = S.i 23 := by rw [Pi 23 (by decide), a2 23 (by decide), ci_ne _ _ _ (by decide), A23]
        have b15 : (CS.setI p53.2 27 (p53.2.i 36)).a 15 = S.a 15 := A15
        have b16 : (CS.setI p53.2 27 (p53.2.i 36)).a 16 = S.a 16 := A16
        have b17 : (CS.setI p53.2 27 (p53.2.i 36)).a 17 = S.a 17 := A17
        have Pa : P.2.a = p58.2.a := by rw [eP]; rfl
        have ck20 := clampI r1.1
        have l20 : (S.i 20).toInt < 1200 := by
          have r2 := r1.2
          rw [k44] at r2
          omega
        have g15 : ∀ j : Nat, (j : Int) < (S.i 20).toInt → P.2.a 15 j = S.a 15 j ∧ P.2.a 16 j = S.a 16 j := fun j hj => by
          rw [Pa, a3, a4, i20, b15, b16]
          refine ⟨gput_ne (by omega), gput_ne (by omega)⟩
        have e15 : P.2.a 15 (pcC S) = 50 := by
          rw [Pa, a3, i20]
          unfold pcC
          exact gput_at ⟨r1.1, by omega⟩
        have g17 : P.2.a 17 = S.a 17 := by rw [Pa, a5 17 (by decide) (by decide), b17]
        have s20 := hv.p20
        have sU : ∀ k : Nat, k ≠ 63 → k ≠ 75 → U.i k = s.i k := ni
        have s42 : U.i 42 = s.i 42 := sU 42 (by decide) (by decide)
        refine ⟨F, M, ⟨by rw [i23]; exact k1.2.2.2.1.1, by
          rw [i23]
          obtain ⟨-, -, -, -, r5⟩ := crB.rms k1
          rw [k44] at r5
          have e1 : e' ≤ 1 := by rcases he' with z | ⟨z, -⟩ <;> omega
          omega⟩, ?_, fun nm cond ng => ?_⟩
        · unfold GHM at ghm ⊢
          rw [i23, s42]
          exact ghm
        · have psi := hM' F nm ⟨fun _ _ _ _ => Iff.rfl, fun k l h => cond k l (by rw [i23, s42]; exact h)⟩
          obtain ⟨-, mn⟩ := main F P.2 nm (fun _ _ _ _ _ _ => False) 0 1300 [] psi ng ⟨True.intro, Nat.zero_le _, Nat.zero_le _, fun _ he => absurd he List.not_mem_nil⟩ (by show ((2 * 0 + (0 + 3 * 0) : Nat) : Int) ≤ _; omega) (Nat.le_refl _)
          have v0 : (vw S s c).v = 300 := vw_v.trans h300
          obtain ⟨s2, t2, g2, d2, l2, j2, nv2⟩ := v302 (Or.inl v0)
          have jc : JCX G 1300 0 [] (vws S s [c]) = (0, 0, jty (vw S s c).v 0 0, []) := by
            show (0, 0 + jlv (vw S s c).v, jty (vw S s c).v (0 + jlv (vw S s c).v) 0, jen G 1300 (vw S s c) 0 0 ++ []) = _
            rw [j2, v0]
            rfl
          rw [jc] at mn
          refine (mn ⟨⟨by have := crB.1.1.1.1; omega, by omega⟩, fun j _ j2' => g15 j j2', fun k _ _ _ => by rw [g17]⟩ ?_ True.intro ⟨fun z => ?_, Nat.le_refl _⟩ ⟨⟨fun z => absurd z (nv2 _ (by decide)), fun z => absurd z (nv2 _ (by decide)), fun z => absurd z (nv2 _ (by decide)), fun z => absurd z (nv2 _ (by decide)), fun z => absurd z (nv2 _ (by decide)), fun z => absurd z (nv2 _ (by decide)), fun z => absurd z (nv2 _ (by decide)), fun z => absurd z t2, fun z => absurd z g2⟩, True.intro⟩ (fun _ => ?_)).1
          · refine ⟨⟨by have := hC.2.2.2.2.2.2.2.2.2.2.2.2.1; omega, by rw [sU 20 (by decide) (by decide)]; exact Int.le_refl _, by rw [sU 20 (by decide) (by decide)]; omega⟩, fun j _ _ => ?_, fun j _ _ => ?_, fun j _ _ _ => ?_, fun j _ _ => ?_⟩
            · rw [na 21 (by decide), na 22 (by decide), na 23 (by decide)]
              exact ⟨rfl, fun _ => rfl, fun _ => rfl⟩
            · rw [na 25 (by decide), na 26 (by decide), na 27 (by decide), na 28 (by decide)]
              exact ⟨rfl, rfl, fun _ => rfl, rfl⟩
            · rw [na 30 (by decide), na 31 (by decide), na 32 (by decide)]
              exact ⟨rfl, rfl, rfl⟩
            · rw [na 34 (by decide), na 35 (by decide), na 36 (by decide), na 37 (by decide)]
              exact ⟨rfl, rfl, rfl, fun _ => rfl⟩
          · have y1 := lt_int u18
            have y2 := le_int z
            omega
          · have hc1 : HC1 nm (pcC S) (pcR s) 0 [] := ⟨⟨by unfold pcC; omega, by unfold pcR; have := clampI s20.1; omega⟩, True.intro, Nat.zero_le _, Nat.zero_le _, fun _ he => absurd he List.not_mem_nil⟩
            have ue : UEnd P.2 (pcC S) (pcR s) (1300 + 0 - pcC S) U := ⟨e15, by rw [sU 20 (by decide) (by decide)]; unfold pcR; exact clampI s20.1, by unfold pcC; omega⟩
            exact ⟨gi_UEnd (c := []) hc1 ue, gi_UEnd (c := []) hc1 ue⟩
    · -- a sign that closes nothing
      have z53 : ¬ p53.2.i 32 = 0 := by
        unfold f_X1_expect at e53
        rw [e_fnd0 c0, ob_some, if_pos rfl] at e53
        exact y_misp (ob_un e53)
      have z58 : ¬ p58.2.i 32 = 0 := by
        rw [f58]
        exact z53
      have zP : ¬ P.2.i 32 = 0 := by
        rw [kF_X6_pop N p58.2 P ep z58]
        exact z58
      exact ⟨Or.inl zP, Or.inl ⟨zP, u10 c0⟩⟩
  · exact absurd (h300.symm.trans z) (by decide)
  · have tk' : S.i 43 = 219 ∨ S.i 43 = 220 := by
      rcases tk with z | z | z | z
      · exact absurd z q1
      · exact absurd z q2
      · exact Or.inl z
      · exact Or.inr z
    have zP := y_stF (x1 := 0) (Or.inl (Or.inr tk')) k
    exact ⟨Or.inl zP, Or.inl ⟨zP, u10 q2⟩⟩
end
section
/-! both readers: an arm's block begins -/
/-- what an arm's base asks for: behind the arms all is good -/
def ARB (U : RS) (B : CS) (b : RS) (a gA : Nat) : JBA := fun FC SF nm X h0 ω c0 => NT5 (B.o a 9) ∧ ∃ (q0 we : Nat) (c' : List Ent), c0 = (5, h0, q0, 0, 0, 0, 0) :: c' ∧ h0 < 600 ∧ we ≤ ω ∧ EXG FC SF U nm X (B.o a 9) q0 h0 we c' ∧ (B.o a 2).toInt = (frs c' : Int) ∧ (b.a 47 gA).toInt = (c'.length : Int) + 1
theorem ARB.mA {U : RS} {B : CS} {b : RS} {a gA : Nat} : JBM U (ARB U B b a gA) := fun FC SF nm X Y h0 ω c0 s ⟨n5, q0, we, c', h1, h2, h3, ⟨pe', qe', e1, e2, e3, e4⟩, h5, h6⟩ => ⟨n5, q0, we, c', h1, h2, h3, ⟨pe', qe', e1, e2, s _ _ _ _ _ _ (Nat.zero_le _) e3, e4⟩, h5, h6⟩
/-- the class and the reference where an arm's row is the base, against the place before its sign -/
def ABR (x : Int32) (t a m : Nat) (S0 : CS) (s0 : RS) (W : CS) (b : RS) : Prop :=
  (((S0.i 53).toInt = (m : Int) ∧ m ≤ 380) ∧ (W.i 53).toInt = (m : Int) + 1 ∧ (W.i 54).toInt = (S0.i 54).toInt + 1 ∧ W.i 55 = S0.i 55 ∧ W.i 22 = S0.i 22 ∧ W.i 38 = S0.i 38 ∧ W.i 21 = S0.i 21 ∧ (S0.i 44).toInt + 1 ≤ (W.i 44).toInt ∧ W.i 56 = S0.i 53) ∧
  (W.a 18 = S0.a 18 ∧ W.a 52 = S0.a 52 ∧ (∀ k : Nat, k < m → W.r 51 k = S0.r 51 k) ∧ (∀ k y : Nat, k < m → S0.r 51 k = some y → W.o y = S0.o y ∧ W.ol y = S0.ol y)) ∧
  (W.r 51 m = some a ∧ W.o a 0 = 302 ∧ W.o a 3 = S0.i 50 ∧ W.o a 16 = S0.i 56 ∧ W.o a 14 = S0.i 55) ∧
  (b.i = s0.i ∧ b.b = s0.b ∧ (∀ k : Nat, k ≠ 65 → k ≠ 71 → b.a k = s0.a k) ∧ (∀ k j : Nat, j ≠ t → b.a k j = s0.a k j)) ∧
  (W.o a 9 = x ∧ W.o a 2 = S0.i 38 ∧ (W.i 20 = S0.i 20 ∧ W.i 21 = S0.i 21 ∧ W.i 22 = S0.i 22 ∧ W.i 23 = S0.i 23 ∧ W.i 50 = S0.i 50) ∧ (W.a 15 = S0.a 15 ∧ W.a 16 = S0.a 16 ∧ W.a 17 = S0.a 17 ∧ W.a 19 = S0.a 19 ∧ W.a 48 = S0.a 48 ∧ W.a 49 = S0.a 49))
set_option maxHeartbeats 4000000 in
theorem ab_start {N : Nat} (hN : 1000 ≤ N) {d x : Int32} {S0 : CS} {s0 V U : RS} {n t : Nat} {p1 : Unit × CS} {p5 : Option Nat × CS} (hv : ENV d S0 s0) (hG : GAR S0 s0) (ts : tpI s0 = (t : Int)) (h64 : s0.a 64 t = 19) (ph3 : 3 ≤ phI s0) (e1 : f_X1_open N S0 123 = some p1) (e5 : f_X6_push N p1.2 302 (p1.2.i 38) (p1.2.i 50) = some p5) (hV : ((f_X12_open N s0 123).bind fun p65 => (f_X12_then N (RS.setA p65.2 71 t (p65.2.i 38)) 6 1).bind fun p67 => some p67) = some V) (g : f_X12_parse_10 N n V = some U) : (¬ p1.2.i 32 = 0 ∧ ¬ U.i 15 = 0) ∨ ∃ (a m : Nat) (b : RS) (c : CEL), p5.1 = some a ∧ ABR x t a m S0 s0 (CS.setI (CS.setI (CS.setO (CS.setO p5.2 a 9 x) a 16 (p5.2.i 56)) 56 (S0.i 53)) 36 1) b ∧ YBA (ARB U (CS.setI (CS.setI (CS.setO (CS.setO p5.2 a 9 x) a 16 (p5.2.i 56)) 56 (S0.i 53)) 36 1) b a ((s0.i 43).toInt - 1).toNat) U (CS.setI (CS.setI (CS.setO (CS.setO p5.2 a 9 x) a 16 (p5.2.i 56)) 56 (S0.i 53)) 36 1) b ∧ STI (ARB U (CS.setI (CS.setI (CS.setO (CS.setO p5.2 a 9 x) a 16 (p5.2.i 56)) 56 (S0.i 53)) 36 1) b a ((s0.i 43).toInt - 1).toNat) U d (CS.setI (CS.setI (CS.setO (CS.setO p5.2 a 9 x) a 16 (p5.2.i 56)) 56 (S0.i 53)) 36 1) b (t + 1) (CS.setI (CS.setI (CS.setO (CS.setO p5.2 a 9 x) a 16 (p5.2.i 56)) 56 (S0.i 53)) 36 1) V c [] := by
  obtain ⟨q, hq, hV⟩ := hf_bind hV
  rw [ob_id] at hV
  rcases y_open hN hv (c := 123) (d := 123) (Or.inl ⟨by decide, by decide⟩) (by decide) (by decide) (by decide) e1 hq with ⟨o1, o2, o3⟩ | ⟨o1, o2, o3, o4, o5, o6, o7, o8, o9, o10, o11, o12⟩
  · exact Or.inl ⟨o2, u_flt g (krf_f_X12_then N _ 6 1 V hV (show ¬ (RS.setA q.2 71 t (q.2.i 38)).i 15 = 0 from o3))⟩
  right
  obtain ⟨G1, G2, G3, G4, G5, G6⟩ := hG
  have tq : tpI q.2 = (t : Int) := qj_63 o4 ts
  obtain ⟨hVe, t99⟩ := r_then (s := RS.setA q.2 71 t (q.2.i 38)) tq hV
  -- the class's row
  obtain ⟨-, -, -, -, -, -, j24, -, -, -, j36, -, j38, j50, j53, j54, j55, j56, -, -, -, -, j52, jr, jo, jol, -, j21, jhk⟩ := pj_eq o5
  have ckp : CKX S0 p1.2 := CKX.of o5 o10 o11
  obtain ⟨m, hmm, m38⟩ := RWI.few o3
  have hm' : (p1.2.i 53).toInt = (m : Int) := hmm
  obtain ⟨a, ra, psr⟩ := y_push o3.ri.s hmm (by omega) e5
  have w35 := o3.ri
  obtain ⟨sj1, sj2, sj3, sj4, sj5, sj6⟩ := id o3.sj
  have hi := i11_hi o3
  obtain ⟨zR, r53, r54, r55, r52, r21, r44⟩ := psr.z hm' (by omega) ⟨sj1, by omega⟩
  obtain ⟨⟨b1, b2, b3⟩, i1, ⟨-, -⟩, rr1, rr2, rw3, nb, ob1, ⟨f0, f1, f3, fl⟩, ⟨f5, f6, f7, f8⟩, ⟨f9, f10, f11, f12, f14⟩⟩ := id psr
  have es : (cnI p1.2).toNat = m := by
    show (p1.2.i 53).toInt.toNat = m
    rw [hm']
    exact Int.toNat_natCast _
  have nr := w35.2.2.2.1.2
  have iq := w35.2.2.2.2.1
  rw [es] at nr iq
  have rsq := psr.rsq (by omega)
  obtain ⟨u1, u2, u3, u4, u5⟩ := rsq.put nr rr1
  obtain ⟨iq2, wc2⟩ := iq.arm rsq nr rr1 f0
  have sums := ckp.sum hv.ri
  have k11 := o3.1.2.2.2.1.1
  have x1' := hv.2.2.1.1
  have x2' := o3.2.2.1.1
  have sgp : sgI p1.2 = (q.2.i 19).toInt := by
    unfold sgI
    rw [x2']
  have sg0 : sgI S0 = (s0.i 19).toInt := by
    unfold sgI
    rw [x1']
  have s1 := sums.1
  have s2 := sums.2
  rw [es] at s1 s2
  have sgn2 : sgn p5.2 a = 2 := by
    unfold sgn
    rw [if_pos f0]
  have e44 : eI p5.2 = eI p1.2 := by
    unfold eI plI
    rw [i1 44 (by decide) (by decide), i1 43 (by decide) (by decide)]
  have e34 : sgI p5.2 = sgI p1.2 := by
    unfold sgI
    rw [i1 34 (by decide) (by decide)]
  have ege := (eI.ge p1.2).1
  unfold plI at ege
  rw [k11] at ege
  have wR : RWI p5.2 := psr.ri w35 hm' (by omega) iq2 (by rw [wc2, e44, s2]; omega) (by rw [u2, sgn2, e34, sgp, s1]; omega)
  have p54 : p1.2.i 54 = S0.i 54 := j54
  have evR : ENV d p5.2 q.2 := o3.psh psr wR (by rw [p54]; omega)
  have evX : ENV d (CS.setO (CS.setO p5.2 a 9 x) a 16 (p5.2.i 56)) q.2 := (evR.so (by decide)).so (by decide)
  obtain ⟨X, hX⟩ : ∃ X, X = CS.setO (CS.setO p5.2 a 9 x) a 16 (p5.2.i 56) := ⟨_, rfl⟩
  have Xi : X.i = p5.2.i := by rw [hX]; rfl
  have Xr : X.r = p5.2.r ∧ X.ol = p5.2.ol ∧ X.a = p5.2.a := by rw [hX]; exact ⟨rfl, rfl, rfl⟩
  have Xo : ∀ y : Nat, y ≠ a → X.o y = p5.2.o y := fun y hy => by rw [hX, so_ne hy, so_ne hy]
  have Xk : ∀ k : Nat, k ≠ 9 → k ≠ 16 → X.o a k = p5.2.o a k := fun k h1 h2 => by rw [hX, so_nk h2, so_nk h1]
  have X16 : X.o a 16 = p5.2.i 56 := by rw [hX, so_at]
  have X9 : X.o a 9 = x := by rw [hX, so_nk (by decide), so_at]
  rw [← hX] at evX
  have evW : ENV d (CS.setI (CS.setI X 56 (S0.i 53)) 36 1) q.2 := evX.gx (fun j _ h36 _ _ _ _ h56 => by rw [ci_ne _ _ _ h36, ci_ne _ _ _ h56]) ⟨rfl, rfl, rfl⟩ rfl rfl (evX.ri.mv rfl rfl rfl rfl ⟨rfl, rfl, rfl⟩ evX.ri.2.2.2.2.2.2 (Int.le_refl _)) evX.sj evX.t21
  obtain ⟨W, hW⟩ : ∃ W, W = CS.setI (CS.setI X 56 (S0.i 53)) 36 1 := ⟨_, rfl⟩
  have Wi : ∀ k : Nat, k ≠ 36 → k ≠ 56 → W.i k = p5.2.i k := fun k h1 h2 => by rw [hW, ci_ne _ _ _ h1, ci_ne _ _ _ h2, Xi]
  have W36 : W.i 36 = 1 := by rw [hW, ci_at]
  have W56 : W.i 56 = S0.i 53 := by rw [hW, ci_ne _ _ _ (by decide), ci_at]
  have Wr : W.r = p5.2.r ∧ W.ol = p5.2.ol ∧ W.a = p5.2.a := by rw [hW]; exact Xr
  have Wo : W.o = X.o := by rw [hW]; rfl
  rw [← hW] at evW
  -- the reference
  obtain ⟨u, hu⟩ : ∃ y, y = TH (RS.setA q.2 71 t (q.2.i 38)) t 6 1 := ⟨_, rfl⟩
  have evu : ENV d W u := by rw [hu]; exact (setA_env (Or.inr ⟨by decide, by decide⟩) evW).th
  have ui : ∀ k : Nat, k ≠ 63 → u.i k = q.2.i k := by
    rw [hu]
    exact fun k h => if_neg h
  have ub : u.b = q.2.b := by rw [hu]; rfl
  have ua : ∀ k : Nat, k ≠ 64 → k ≠ 65 → k ≠ 71 → u.a k = q.2.a k := fun k h1 h2 h3 => by rw [hu, TH.loc h1 h2, setA_nk h3]
  have u71 : u.a 71 t = q.2.i 38 := by
    rw [hu, TH.loc (by decide) (by decide)]
    exact setA_at
  have u71j : ∀ j : Nat, j ≠ t → u.a 71 j = q.2.a 71 j := fun j hj => by
    rw [hu, TH.loc (by decide) (by decide)]
    exact setA_ne hj
  have u64j : ∀ j : Nat, j ≤ t → u.a 64 j = q.2.a 64 j := fun j hj => by
    rw [hu, TH.fk0 hj]
    rfl
  have u65 : u.a 65 t = 6 := by rw [hu]; exact TH.st
  have u65j : ∀ j : Nat, j < t → u.a 65 j = q.2.a 65 j := fun j hj => by
    rw [hu]
    exact ((TH.frb (s := RS.setA q.2 71 t (q.2.i 38)) (t := t) (a := 6) (b := 1)) j hj).2.1
  have u641 : u.a 64 (t + 1) = 1 := by rw [hu]; exact TH.fk
  have u651 : u.a 65 (t + 1) = 0 := by rw [hu]; exact TH.fs
  have tu : tpI u = ((t + 1 : Nat) : Int) := by rw [hu]; exact TH.tp (u := RS.setA q.2 71 t (q.2.i 38)) tq (by omega)
  rw [← hu] at hVe
  clear hu
  have qi := qj_eq o4
  obtain ⟨c2, c3, c8, -, c24, c29, c33, c38, -, c43, -, -, -, -, c56, c59, -⟩ := id qi
  have qa := fun k hk => qj_a o4 k hk
  have qb := qj_b o4
  have qf := (FRB.of o4 : FRB (t + 1) s0 q.2)
  -- the base
  obtain ⟨b, hb⟩ : ∃ b, b = RS.setA (RS.setA s0 71 t (s0.i 38)) 65 t 6 := ⟨_, rfl⟩
  have bi : b.i = s0.i := by rw [hb]; rfl
  have bb : b.b = s0.b := by rw [hb]; rfl
  have ba : ∀ k : Nat, k ≠ 65 → k ≠ 71 → b.a k = s0.a k := fun k h1 h2 => by rw [hb, setA_nk h1, setA_nk h2]
  have baj : ∀ k j : Nat, j ≠ t → b.a k j = s0.a k j := fun k j hj => by rw [hb, setA_lo (Or.inr hj), setA_lo (Or.inr hj)]
  have b65 : b.a 65 t = 6 := by rw [hb]; exact setA_at
  have b71 : b.a 71 t = s0.i 38 := by
    rw [hb, setA_nk (by decide)]
    exact setA_at
  clear hb
  obtain ⟨gg, hgg⟩ : ∃ gg : Nat, (s0.i 43).toInt = (gg : Int) := ⟨(s0.i 43).toInt.toNat, by omega⟩
  have hwp := hv.wp
  obtain ⟨ww, hww⟩ : ∃ ww : Nat, (s0.i 56).toInt = (ww : Int) := ⟨(s0.i 56).toInt.toNat, by have := hwp.1.2.1; omega⟩
  have c43' : (u.i 43).toInt = (s0.i 43).toInt := by rw [ui 43 (by decide), c43]
  have c56' : (u.i 56).toInt = (s0.i 56).toInt := by rw [ui 56 (by decide), c56]
  have W0 : W.o a 0 = 302 := by rw [Wo, Xk 0 (by decide) (by decide)]; exact f0
  have W1 : W.o a 1 = p1.2.i 54 + 1 := by rw [Wo, Xk 1 (by decide) (by decide)]; exact f1
  have W3 : W.o a 3 = S0.i 50 := by rw [Wo, Xk 3 (by decide) (by decide), f3]; exact j50
  have W14 : W.o a 14 = S0.i 55 := by rw [Wo, Xk 14 (by decide) (by decide), f14]; exact j55
  have W16 : W.o a 16 = S0.i 56 := by rw [Wo, X16, i1 56 (by decide) (by decide)]; exact j56
  have Wrm : W.r 51 m = some a := by rw [Wr.1]; exact rr1
  have W53 : (W.i 53).toInt = (m : Int) + 1 := by rw [Wi 53 (by decide) (by decide), r53, hm']
  have W54 : (W.i 54).toInt = (S0.i 54).toInt + 1 := by rw [Wi 54 (by decide) (by decide), r54, p54]
  have W55 : W.i 55 = S0.i 55 := by rw [Wi 55 (by decide) (by decide), r55]; exact j55
  have W22 : W.i 22 = S0.i 22 := by rw [Wi 22 (by decide) (by decide), i1 22 (by decide) (by decide)]; exact o10
  have W38 : W.i 38 = S0.i 38 := by rw [Wi 38 (by decide) (by decide), i1 38 (by decide) (by decide)]; exact j38
  have W21 : W.i 21 = S0.i 21 := by rw [Wi 21 (by decide) (by decide), r21]; exact j21
  have W50 : W.i 50 = S0.i 50 := by rw [Wi 50 (by decide) (by decide), i1 50 (by decide) (by decide)]; exact j50
  have W44 : W.i 44 = q.2.i 11 := by rw [Wi 44 (by decide) (by decide), r44]; exact k11
  have k110 := hv.1.2.2.2.1.1
  have s50 := hv.2.1.1
  have nms := hv.2.1.2.1
  have u11 : (u.i 11).toInt = (q.2.i 11).toInt := by rw [ui 11 (by decide)]
  have W1i : (W.o a 1).toInt = (W.i 54).toInt := by
    rw [W1, W54]
    have z := ad1 (x := p1.2.i 54) sj1 (by omega)
    rw [z, p54]
  have q17 : (q.2.i 17).toInt = (s0.i 17).toInt + 1 := by rw [o6, t17_up (N := N) hv]
  have u17 : (u.i 17).toInt = (s0.i 17).toInt + 1 := by rw [ui 17 (by decide), q17]
  have phu : phI u = phI s0 + 3 := by
    unfold phI
    rw [ui 17 (by decide), ui 20 (by decide), o8, q17]
    omega
  have u38 : u.i 38 = s0.i 38 := by rw [ui 38 (by decide), c38]
  have i43 : u.i 43 = s0.i 43 := by rw [ui 43 (by decide), c43]
  have i56 : u.i 56 = s0.i 56 := by rw [ui 56 (by decide), c56]
  have i59 : u.i 59 = s0.i 59 := by rw [ui 59 (by decide), c59]
  have i29 : u.i 29 = s0.i 29 := by rw [ui 29 (by decide), c29]
  have i33 : u.i 33 = s0.i 33 := by rw [ui 33 (by decide), c33]
  have i24 : u.i 24 = s0.i 24 := by rw [ui 24 (by decide), c24]
  have i20 : u.i 20 = s0.i 20 := by rw [ui 20 (by decide), o8]
  have uk : ∀ k : Nat, (k = 1 ∨ k = 4 ∨ k = 25 ∨ k = 27 ∨ k = 28 ∨ k = 30 ∨ k = 34 ∨ k = 37 ∨ k = 40 ∨ k = 41 ∨ k = 44 ∨ k = 46 ∨ k = 47 ∨ k = 48 ∨ k = 49 ∨ k = 50 ∨ k = 51 ∨ k = 57 ∨ k = 58 ∨ k = 60 ∨ k = 61 ∨ k = 62) → u.a k = b.a k := fun k hk => by
    rw [ua k (by omega) (by omega) (by omega), qa k hk, ba k (by omega) (by omega)]
  have u22 : u.a 22 = b.a 22 := by rw [ua 22 (by decide) (by decide) (by decide), o9, ba 22 (by decide) (by decide)]
  have ubb : u.b 9 = b.b 9 ∧ u.b 39 = b.b 39 ∧ u.b 45 = b.b 45 := by
    rw [ub, bb]
    exact qb
  have frS : FRB (t + 1) b u := fun j hj => by
    obtain ⟨z0, z1, z2, z3, z4, z5, z6, z7, z8, z9, zb⟩ := qf j hj
    by_cases ej : j = t
    · rw [ej] at z0 z2 z3 z4 z5 z6 z8 z9 zb ⊢
      refine ⟨?_, by rw [u65, b65], ?_, ?_, ?_, ?_, ?_, by rw [u71, b71, c38], ?_, ?_, ?_⟩
      · rw [u64j t (Nat.le_refl t), z0, ba 64 (by decide) (by decide)]
      · rw [ua 66 (by decide) (by decide) (by decide), z2, ba 66 (by decide) (by decide)]
      · rw [ua 67 (by decide) (by decide) (by decide), z3, ba 67 (by decide) (by decide)]
      · rw [ua 68 (by decide) (by decide) (by decide), z4, ba 68 (by decide) (by decide)]
      · rw [ua 69 (by decide) (by decide) (by decide), z5, ba 69 (by decide) (by decide)]
      · rw [ua 70 (by decide) (by decide) (by decide), z6, ba 70 (by decide) (by decide)]
      · rw [ua 72 (by decide) (by decide) (by decide), z8, ba 72 (by decide) (by decide)]
      · rw [ua 73 (by decide) (by decide) (by decide), z9, ba 73 (by decide) (by decide)]
      · rw [ub, zb, bb]
    · refine ⟨?_, ?_, ?_, ?_, ?_, ?_, ?_, ?_, ?_, ?_, ?_⟩
      · rw [u64j j (by omega), z0, baj 64 j ej]
      · rw [u65j j (by omega), z1, baj 65 j ej]
      · rw [ua 66 (by decide) (by decide) (by decide), z2, baj 66 j ej]
      · rw [ua 67 (by decide) (by decide) (by decide), z3, baj 67 j ej]
      · rw [ua 68 (by decide) (by decide) (by decide), z4, baj 68 j ej]
      · rw [ua 69 (by decide) (by decide) (by decide), z5, baj 69 j ej]
      · rw [ua 70 (by decide) (by decide) (by decide), z6, baj 70 j ej]
      · rw [u71j j ej, z7, baj 71 j ej]
      · rw [ua 72 (by decide) (by decide) (by decide), z8, baj 72 j ej]
      · rw [ua 73 (by decide) (by decide) (by decide), z9, baj 73 j ej]
      · rw [ub, zb, bb]
  have tbb : TBB b u := by
    unfold TBB
    rw [bi, u38, i43, i56, i59, i29, i33, i24]
    refine ⟨Int.le_refl _, Int.le_refl _, Int.le_refl _, fun j _ => ⟨by rw [ubb.2.1], by rw [uk 40 (by decide)], by rw [uk 41 (by decide)]⟩, fun j _ => ⟨by rw [uk 44 (by decide)], by rw [ubb.2.2], by rw [uk 46 (by decide)], by rw [uk 47 (by decide)], by rw [uk 50 (by decide)], by rw [uk 51 (by decide)], by rw [uk 48 (by decide)], by rw [uk 49 (by decide)]⟩, fun j _ => ⟨by rw [uk 57 (by decide)], by rw [uk 58 (by decide)]⟩, Int.le_refl _, fun j _ => ⟨by rw [uk 60 (by decide)], by rw [uk 61 (by decide)], by rw [uk 62 (by decide)]⟩, Int.le_refl _, fun j _ => by rw [uk 30 (by decide)], Int.le_refl _, fun j _ => ⟨by rw [uk 34 (by decide)], by rw [uk 37 (by decide)]⟩, Int.le_refl _, fun j _ => ⟨by rw [uk 25 (by decide)], by rw [uk 27 (by decide)], by rw [uk 28 (by decide)]⟩⟩
  have no : ∀ v : Int32, v = 302 → ¬ isOne v ∧ ¬ isTy v ∧ ¬ isGo v ∧ ¬ isWl v ∧ ¬ v = 218 ∧ ¬ v = 303 ∧ ¬ v = 305 ∧ ¬ v = 216 := fun v hv => by
    rw [hv]
    unfold isOne isTy isGo isWl
    decide
  obtain ⟨no1, noT, noG, noW, n218, n303, n305, n216⟩ := no _ W0
  have wd : wid (W.o a 0) = 2 := by rw [W0]; rfl
  have rfr : RFR W u a t gg ww := RFR.m302 W0 ⟨by rw [u64j t (Nat.le_refl t), (qf t (by omega)).1]; exact h64, u65, by rw [u71, c38, W3]; exact s50.symm, u641⟩
  have s29 := hwp.1.2.2.2
  have cor : COR d W b (t + 1) [((m, a, t, gg, ww) : CEL)] 0 W u := by
    refine ⟨evu, ?_, ?_, ?_, ?_, ⟨frS, tbb, ⟨by rw [bi, i20]; exact Int.le_refl _, fun j _ => by rw [u22]⟩, ⟨by rw [bi, ui 2 (by decide), c2], by rw [bi, ui 3 (by decide), c3], by rw [bi, ui 8 (by decide), c8], uk 1 (by decide), uk 4 (by decide), ubb.1⟩⟩, ⟨?_, ?_, ?_, ?_⟩, ⟨?_, ?_, ?_, ?_, ?_⟩, ⟨?_, ?_, ?_⟩, ?_, ?_, ?_, ?_, fun _ => none, ?_⟩
    · exact ⟨_, _, _, CST.pl Wrm (by omega) rfr n218 noT, fun c0 hc => (by cases hc), trivial⟩
    · have one : ∀ y ∈ [((m, a, t, gg, ww) : CEL)], y = ((m, a, t, gg, ww) : CEL) := fun y hy => List.mem_singleton.mp hy
      have oy : ∀ y ∈ [((m, a, t, gg, ww) : CEL)], W.o y.2.1 = W.o a := fun y hy => by rw [one y hy]
      refine ⟨fun y hy z => ?_, fun y hy z => ?_, fun k hk y hy z => ?_, fun k h1 h2 => ?_, fun y hy z => ?_, fun y hy z _ h1 => ?_, fun y hy => ?_, ⟨fun i hi hg => ?_, fun y hy z => ?_⟩⟩
      · rw [oy y hy] at z
        exact absurd z noG
      · rw [oy y hy] at z
        exact absurd z noG
      · rw [oy y hy] at z
        exact absurd z noT
      · rw [bi] at h1
        rw [i59] at h2
        omega
      · rw [oy y hy] at z
        exact absurd z noT
      · rw [oy y hy] at h1
        exact absurd h1 noT
      · rw [oy y hy, W14, W55]
        refine ⟨by rw [W1i, W54, ← p54]; omega, by rw [W1i]; exact Int.le_refl _, by rw [← j55]; exact sj3, Int.le_refl _, fun z => absurd z n216⟩
      · obtain ⟨y, hy, hl⟩ := hg
        rw [oy y hy, W14] at hl
        rw [W55] at hi
        omega
      · rw [oy y hy] at z
        exact absurd z noG
    · unfold LBC
      rw [if_neg n303, if_neg (fun z => noG (by
        rcases z with z | z | z | z
        · exact Or.inr (Or.inr (Or.inl z))
        · exact Or.inr (Or.inr (Or.inr (Or.inl z)))
        · exact Or.inr (Or.inr (Or.inr (Or.inr (Or.inl z))))
        · exact Or.inr (Or.inr (Or.inr (Or.inr (Or.inr z))))))]
      trivial
    · exact ⟨fun _ _ => rfl, fun _ _ _ _ => ⟨rfl, rfl⟩, Int.le_refl _, Int.le_refl _, fun _ _ => rfl, Int.le_refl _, Int.le_refl _, fun _ _ => rfl, fun k h1 h2 => by omega, ⟨Int.le_refl _, Int.le_refl _, Int.le_refl _⟩, rfl⟩
    · rw [bi, u11]
      exact o7
    · have z : phI b = phI s0 := by
        unfold phI
        rw [bi]
      have y : PDM W [((m, a, t, gg, ww) : CEL)] = dbt (W.o a 0) + 0 := rfl
      have w : dbt (W.o a 0) = 0 := by rw [W0]; rfl
      rw [z, y, w, phu]
      omega
    · rw [bi, u17]
      omega
    · have y : SSM W [((m, a, t, gg, ww) : CEL)] = (nSg (W.o a 0) : Int) + 0 := rfl
      have w : nSg (W.o a 0) = 1 := by rw [W0]; rfl
      rw [y, w, bi, ui 19 (by decide), o12]
      rfl
    · have y : DSM W [((m, a, t, gg, ww) : CEL)] = (nDp (W.o a 0) : Int) + 0 := rfl
      have w : nDp (W.o a 0) = 0 := by rw [W0]; rfl
      rw [y, w]
      show _ = _ + ((0 : Int) + 0)
      omega
    · intro y hy
      rw [List.mem_singleton.mp hy]
      show (b.i 38).toInt ≤ (W.o a 3).toInt ∧ (W.o a 3).toInt ≤ (W.i 50).toInt
      rw [W3, W50, bi, s50]
      exact ⟨Int.le_refl _, Int.le_refl _⟩
    · intro y hy z hz l
      rw [List.mem_singleton.mp hy, List.mem_singleton.mp hz]
      exact Int.le_refl _
    · show cfl W [] (if W.o a 0 = 218 then (W.o a 13).toInt else (W.i 22).toInt) = (W.i 22).toInt
      rw [if_neg n218]
      rfl
    · intro y hy
      rw [List.mem_singleton.mp hy]
      exact ⟨fun z => absurd z noT, fun z => absurd z n218⟩
    · rw [W21, u11]
      omega
    · rw [u38, u11]
      omega
    · rw [W54, u11]
      omega
    · unfold IAR
      rw [W56, i43, uk 44 (by decide), ba 44 (by decide) (by decide)]
      have m53 : (S0.i 53).toInt = (m : Int) := by rw [← j53]; exact hm'
      refine ⟨⟨fun _ => ⟨((s0.i 43).toInt - 1).toNat, by omega, G4⟩, fun _ => by omega⟩, fun _ => ⟨by omega, by omega, a, ?_⟩⟩
      have en : (S0.i 53).toInt.toNat = m := by omega
      rw [en]
      exact Wrm
    · rw [bi]
      exact s29
    · have z : phI b = phI s0 := by
        unfold phI
        rw [bi]
      rw [z]
      exact ph3
    · rw [bi]
      exact hv.2.2.2.2.2.2.1
    · refine ⟨fun k x e => (by cases e), fun k x e => (by cases e), fun y hy z => ?_, fun k g e h => (by cases h), fun y hy z => ?_, fun y hy z _ h1 => ?_, fun y hy k p => ?_⟩
      · rw [List.mem_singleton.mp hy] at z
        exact absurd z noG
      · rw [List.mem_singleton.mp hy] at z
        exact absurd z n218
      · rw [List.mem_singleton.mp hy] at h1
        exact absurd h1 n218
      · exfalso
        rw [List.mem_singleton.mp hy] at p
        have p' : ((W.o a 0 = 203 ∨ W.o a 0 = 304) ∧ k = (u.a 66 t).toInt) ∨ (W.o a 0 = 204 ∧ k = (u.a 68 t).toInt) ∨ ((W.o a 0 = 205 ∨ W.o a 0 = 207) ∧ k = (u.a 67 t).toInt) := p
        rw [W0] at p'
        rcases p' with ⟨z | z, -⟩ | ⟨z, -⟩ | ⟨z | z, -⟩ <;> exact absurd z (by decide)
  have m53 : (S0.i 53).toInt = (m : Int) := by rw [← j53]; exact hm'
  have W9 : W.o a 9 = x := by rw [Wo]; exact X9
  have W2 : W.o a 2 = S0.i 38 := by rw [Wo, Xk 2 (by decide) (by decide), psh_o2 e5 ra]; exact j38
  obtain ⟨A20, A15, A16, A17, A23, A38, A22, A19⟩ := pe_eq (ke_X1_open N S0 123 p1 e1)
  have Wa : W.a = p1.2.a := by rw [Wr.2.2, b1]
  obtain ⟨-, -, -, -, -, -, -, -, -, -, -, -, -, -, -, -, -, -, -, -, Pa48, Pa49, -, -, -, -, -, -, -⟩ := pj_eq o5
  refine ⟨a, m, b, (m, a, t, gg, ww), ra, ?_, ?_, ?_⟩
  · rw [← hX, ← hW]
    refine ⟨⟨⟨m53, m38⟩, W53, W54, W55, W22, W38, W21, by rw [W44, k110]; exact o7, W56⟩, ⟨by rw [Wr.2.2, b1]; exact o11.1, by rw [Wr.2.2, r52]; exact j52, fun k hk => ?_, fun k y hk hy => ?_⟩, ⟨Wrm, W0, W3, W16, W14⟩, ⟨bi, bb, ba, baj⟩, ⟨W9, W2, ⟨by rw [Wi 20 (by decide) (by decide), i1 20 (by decide) (by decide), A20], W21, W22, by rw [Wi 23 (by decide) (by decide), i1 23 (by decide) (by decide), A23], W50⟩, ⟨by rw [Wa, A15], by rw [Wa, A16], by rw [Wa, A17], by rw [Wa, A19], by rw [Wa, Pa48], by rw [Wa, Pa49]⟩⟩⟩
    · rw [Wr.1, rr2 51 k (fun z => by omega), jr]
    · have ny : y ≠ a := nb k y (by omega) (by omega) (by rw [jr]; exact hy)
      rw [Wo, Xo y ny, Wr.2.1, (ob1 y ny).1, (ob1 y ny).2, jo, jol]
      exact ⟨rfl, rfl⟩
  · rw [← hX, ← hW]
    intro _
    refine ⟨a, ((s0.i 43).toInt - 1).toNat, by rw [W56]; omega, ?_, by rw [bi]; omega, by rw [ba 44 (by decide) (by decide)]; exact G4, fun FC SF nm X' h0 ω c0 h => h⟩
    have en : (W.i 56).toInt.toNat = m := by rw [W56]; omega
    rw [en]
    exact Wrm
  · rw [← hX, ← hW, hVe]
    refine ⟨0, cor, ⟨?_, ?_, ?_⟩, ⟨Or.inl ⟨no1, n305, ?_, ?_, Or.inl ⟨?_, W36⟩, fun z => absurd z n218⟩, Or.inr W36⟩, ?_, ?_, fun z => absurd z.1 no1, ?_⟩
    · exact W53
    · show (u.i 43).toInt = (gg : Int) + (nGo (W.o a 0) : Int)
      rw [nGo.eq noG]
      omega
    · show (u.i 56).toInt = (ww : Int) + (nWl (W.o a 0) : Int)
      rw [nWl.eq noW]
      omega
    · show tpI u = (t : Int) + (wid (W.o a 0) : Int) - 1
      rw [wd, tu]
      omega
    · show u.a 64 (t + wid (W.o a 0) - 1) = 1
      rw [wd]
      exact u641
    · show u.a 65 (t + wid (W.o a 0) - 1) = 0
      rw [wd]
      exact u651
    · refine ⟨⟨noG, noT⟩, ⟨by rw [bi]; exact hgg, Or.inr ?_⟩, by rw [bi]; exact hww, by show (W.i 54).toInt ≤ (W.o a 1).toInt; rw [W1i]; exact Int.le_refl _, fun z => ?_, ⟨W53, Wrm, by rw [bi]; exact nms.1, by show (W.i 55).toInt ≤ (W.o a 14).toInt; rw [W14, W55]; exact Int.le_refl _, by rw [W38, ← j38]; exact sj5, ?_⟩, Or.inl ⟨by show (m : Int) = (W.i 56).toInt; rw [W56, m53], W0⟩⟩
      · show b.a 44 (gg - 1) = 3
        have en : ((s0.i 43).toInt - 1).toNat = gg - 1 := by omega
        rw [ba 44 (by decide) (by decide), ← en]
        exact G4
      · rw [bi] at z ⊢
        rw [ba 58 (by decide) (by decide)]
        exact hwp.1.2.2.1 z
      · unfold WPI at *
        rw [bi, ba 58 (by decide) (by decide), ba 62 (by decide) (by decide)]
        exact hwp
    · show t + 1 + 1 = t + wid (W.o a 0)
      rw [wd]
    · have qeu : qe u = qe s0 := by
        have z := kre_f_X12_open N s0 123 q hq
        obtain ⟨⟨h1, h2, h3, h4, h5, h6⟩, h21, h22, h23, h25, h26, h27, h28, h30, h31, h32, h34, h35, h36, h37⟩ := qe_eq z
        unfold qe
        rw [ui 20 (by decide), ui 24 (by decide), ui 29 (by decide), ui 33 (by decide), ui 42 (by decide), ui 52 (by decide), ua 21 (by decide) (by decide) (by decide), ua 22 (by decide) (by decide) (by decide), ua 23 (by decide) (by decide) (by decide), ua 25 (by decide) (by decide) (by decide), ua 26 (by decide) (by decide) (by decide), ua 27 (by decide) (by decide) (by decide), ua 28 (by decide) (by decide) (by decide), ua 30 (by decide) (by decide) (by decide), ua 31 (by decide) (by decide) (by decide), ua 32 (by decide) (by decide) (by decide), ua 34 (by decide) (by decide) (by decide), ua 35 (by decide) (by decide) (by decide), ua 36 (by decide) (by decide) (by decide), ua 37 (by decide) (by decide) (by decide), h1, h2, h3, h4, h5, h6, h21, h22, h23, h25, h26, h27, h28, h30, h31, h32, h34, h35, h36, h37]
      obtain ⟨⟨h1, h2, h3, h4, h5, h6⟩, h21, h22, h23, h25, h26, h27, h28, h30, h31, h32, h34, h35, h36, h37⟩ := qe_eq qeu
      have bk : ∀ k : Nat, k ≠ 65 → k ≠ 71 → u.a k = s0.a k → u.a k = b.a k := fun k k1 k2 z => by rw [ba k k1 k2]; exact z
      refine (JRW.ini (r := vw W u (m, a, t, gg, ww)) (Or.inr ?_) W36 ⟨⟨by rw [bi]; exact h1, by rw [bi]; exact h2, by rw [bi]; exact h3, by rw [bi]; exact h4, by rw [bi]; exact h5⟩, bk 21 (by decide) (by decide) h21, bk 22 (by decide) (by decide) h22, bk 23 (by decide) (by decide) h23, bk 25 (by decide) (by decide) h25, bk 26 (by decide) (by decide) h26, bk 27 (by decide) (by decide) h27, bk 28 (by decide) (by decide) h28, bk 30 (by decide) (by decide) h30, bk 31 (by decide) (by decide) h31, bk 32 (by decide) (by decide) h32, bk 34 (by decide) (by decide) h34, bk 35 (by decide) (by decide) h35, bk 36 (by decide) (by decide) h36, bk 37 (by decide) (by decide) h37⟩ (by rw [bi]; exact h6) ⟨by rw [bi]; exact u38, fun j _ => by rw [uk 40 (by decide)]⟩ (by rw [bi, u11]; omega) (by rw [bi, ui 19 (by decide), o12]; omega)).x
      exact vw_v.trans W0
end
section
/-! both readers: an arm's block ends -/
theorem am_flt {N : Nat} {s U V : RS} {x1 : Int32} (h15 : s.i 15 = 0) (k' : ¬ s.i 10 = 125) (hV : f_X12_arms_435 N s x1 = some V) : ¬ V.i 15 = 0 := by
  unfold f_X12_arms_435 at hV
  obtain ⟨p3, hsh, hV⟩ := hf_bind hV
  obtain ⟨-, hV⟩ := hf_ite hV
  have z3 : ¬ p3.2.i 15 = 0 := by
    unfold f_X12_shut f_X12_shut_18 f_X12_need f_X12_need_27 f_X12_need_31 at hsh
    rw [if_pos h15, if_neg k'] at hsh
    obtain ⟨w, gw, hsh⟩ := hf_bind hsh
    obtain ⟨q, gq, gw⟩ := hf_bind gw
    obtain ⟨q1, q2⟩ := y_can0 gq
    rw [if_pos q1, if_neg q2] at gw
    cases gw
    have g2 : (if q.2.i 15 = 0 then some ((1 : Int32), q.2) else some (0, q.2)) = some p3 := (if_pos rfl).symm.trans hsh
    rw [if_neg q2] at g2
    rw [← Option.some.inj g2]
    exact q2
  rw [← Option.some.inj hV]
  exact z3
/-- the reference at the arm's end -/
theorem am_ref {N : Nat} {d : Int32} {S : CS} {V0 U : RS} {t n : Nat} (ev : ENV d S V0) (tV : tpI V0 = (t : Int)) (v64 : V0.a 64 t = 19) (v65 : V0.a 65 t = 6) (g : f_X12_parse_10 N n V0 = some U) : t < 1000 ∧ ∃ (m : Nat) (V1 : RS), f_X12_parse_10 N m V1 = some U ∧ (if V0.i 75 = 0 then f_X12_arms_435 N V0 (V0.i 63) else (if V0.i 10 = 125 then (f_X12_note N V0 (V0.i 11)).bind fun p75 => f_X12_arms_435 N p75 (V0.i 63) else f_X12_arms_435 N V0 (V0.i 63))) = some V1 := by
  obtain ⟨m, V1, hV, g2⟩ := rl_19 g tV ev.1.2.1 v64
  unfold f_X12_arms at hV
  obtain ⟨hib, hV⟩ := hf_ite hV
  have t9 : t < 1000 := by
    have h2 : (V0.i 63).toInt = (t : Int) := tV
    have := hib.2
    omega
  rw [tp_nat tV, v65, if_neg (by decide), if_neg (by decide), if_neg (by decide), if_neg (by decide), if_neg (by decide), if_neg (by decide), if_pos rfl] at hV
  exact ⟨t9, m, V1, g2, hV⟩
/-- what a list of entries says at its bottom -/
theorem TYC.lo {s0 : CS} {r0 : RS} {A : Als} {W : Nat} : ∀ {c : List Ent}, TYC s0 r0 A W c → 1300 ≤ W
  | [], h => h.2
  | _ :: _, ⟨_, _, h⟩ => TYC.lo h
theorem TYC.lt {s0 : CS} {r0 : RS} {A : Als} {W : Nat} : ∀ {c : List Ent}, TYC s0 r0 A W c → LTGD r0 A
  | [], h => h.1
  | _ :: _, ⟨_, _, h⟩ => TYC.lt h
theorem note_nn {N : Nat} {s V : RS} {x : Int32} (h15 : s.i 15 = 0) (hx : 0 ≤ x) (g : f_X12_note N s x = some V) : 0 ≤ V.i 18 := by
  unfold f_X12_note at g
  rw [if_pos h15] at g
  by_cases z : 0 ≤ s.i 18
  · rw [if_pos z] at g
    rw [← Option.some.inj g]
    exact z
  · rw [if_neg z] at g
    rw [← Option.some.inj g]
    exact hx
set_option maxHeartbeats 4000000 in
/-- the code of an arm's block, from its rows' -/
theorem arm_cod {x : Int32} {t a m : Nat} {S0 W S R : CS} {s0 b s v U : RS} {c : CEL} (hr : ABR x t a m S0 s0 W b) (n50 : S0.i 50 = s0.i 38) (h11 : (s0.i 11).toInt ≤ 900) (v2 : (vw S s c).v = 302) (jw : JRW (ARB U W b a ((s0.i 43).toInt - 1).toNat) U W b [vw S s c] S s) (tb : (b.i 38).toInt ≤ (s.i 38).toInt) (i44 : (S.i 44).toInt + 1 ≤ (R.i 44).toInt) (ri : R.i 20 = S.i 20 ∧ R.i 21 = S.i 21 ∧ R.i 22 = S.i 22 ∧ R.i 23 = S.i 23) (r38 : R.i 38 = S0.i 38) (r50 : R.i 50 = S0.i 50) (ra : ∀ k : Nat, (k = 15 ∨ k = 16 ∨ k = 17 ∨ k = 19 ∨ k = 48 ∨ k = 49) → R.a k = S.a k) (vi : ∀ k : Nat, (k = 20 ∨ k = 24 ∨ k = 29 ∨ k = 33 ∨ k = 42 ∨ k = 52) → v.i k = s.i k) (va : ∀ k : Nat, (k = 21 ∨ k = 22 ∨ k = 23 ∨ k = 25 ∨ k = 26 ∨ k = 27 ∨ k = 28 ∨ k = 30 ∨ k = 31 ∨ k = 32 ∨ k = 34 ∨ k = 35 ∨ k = 36 ∨ k = 37) → v.a k = s.a k) (late : S.i 36 = 1 → 0 ≤ U.i 18) : ABD x t U S0 s0 R v := by
  intro q0 hq0 crb g47
  obtain ⟨⟨-, -, -, -, -, w38, -, w44, -⟩, -, -, ⟨bi, -, ba, -⟩, ⟨wx, w2, ⟨w20, w21, w22, w23, w50⟩, ⟨w15, w16, w17, w19, w48, w49⟩⟩⟩ := hr
  obtain ⟨r20, r21, r22, r23⟩ := ri
  obtain ⟨⟨b01, b02⟩, b03, b04, b05, b06⟩ := id crb
  have crW : CRQB W := ⟨⟨⟨⟨by rw [w20]; exact b01, by rw [w20]; omega⟩, by rw [w21]; exact b03, by rw [w21]; omega, by rw [w23]; exact b05, by rw [w23]; omega⟩, by rw [w20]; omega⟩, by rw [w21]; omega, by rw [w23]; omega⟩
  obtain ⟨⟨e', he', k1⟩, ⟨k2, n8⟩, k3, Ψ, G, col, YJ, sax, -, -, -, main⟩ := jw crW
  have le1 : e' ≤ 1 := by rcases he' with z | ⟨z, -⟩ <;> omega
  obtain ⟨⟨a1, a2, a3⟩, a4, a5, ⟨a6, a7⟩, a8, a9⟩ := k1
  have bk : ∀ k : Nat, (k = 21 ∨ k = 22 ∨ k = 23 ∨ k = 25 ∨ k = 26 ∨ k = 27 ∨ k = 28 ∨ k = 30 ∨ k = 31 ∨ k = 32 ∨ k = 34 ∨ k = 35 ∨ k = 36 ∨ k = 37 ∨ k = 40 ∨ k = 47) → b.a k = s0.a k := fun k hk => ba k (by omega) (by omega)
  have s52 : s.i 52 = s0.i 52 := by
    rw [n8.2, show sl32 [vw S s c] = 0 + d32 (vw S s c).v from rfl, d32.no (by rw [v2]; decide), Int32.add_zero, Int32.add_zero, bi]
  rw [w20] at a1 a2
  rw [w21] at a3 a5
  rw [w22] at a8
  rw [w23] at a6 a7
  have cd1 : CD1 0 (-1) S0 R := by
    refine ⟨⟨by rw [r20]; exact a1, by rw [r20]; omega, by rw [r21]; omega⟩, fun j hj => ?_, by rw [r21]; exact a5, by rw [r50]; exact Int.le_refl _, fun k hk => ?_, ⟨by rw [r23]; exact a6, by rw [r23]; omega⟩, r38, by rw [r22]; exact a8, fun k hk => ?_⟩
    · have z := a4 j (by rw [w20]; exact hj)
      rw [ra 15 (by decide), ra 16 (by decide), z.1, z.2, w15, w16]
      exact ⟨rfl, rfl⟩
    · rw [n50] at hk
      have hk' : (k : Int) < (b.i 38).toInt := by rw [bi]; exact hk
      have z := n8.1 k hk' (by omega)
      rw [ra 48 (by decide), ra 49 (by decide), z.1, z.2, w48, w49]
      exact ⟨rfl, rfl⟩
    · rw [ra 19 (by decide), a9 k (by rw [w22]; exact hk), w19]
  have ct7 : CT7 0 (S0.i 21).toInt S0 R := fun k k1' k2' => by
    rw [ra 17 (by decide), k2 k k1' (by rw [w21]; exact k2'), w17]
  rw [bi] at k3
  obtain ⟨⟨c1, c2, c3, c4, c5⟩, c6, c7, c8, c9⟩ := k3
  rw [bi] at c1 c2 c3 c4 c7 c8 c9
  have slc : SLC s0 v := fun q => by
    have z := c5 (by unfold SLO at q ⊢; rw [bi]; exact q)
    unfold SLO at z ⊢
    rw [vi 42 (by decide), vi 20 (by decide)]
    rw [bi] at z
    exact z
  have cd2 : CD2 (s0.i 20).toInt s0 v := by
    refine ⟨⟨by rw [vi 20 (by decide)]; exact c1, by rw [vi 24 (by decide)]; exact c2, by rw [vi 29 (by decide)]; exact c3, by rw [vi 33 (by decide)]; exact c4, slc, by rw [vi 52 (by decide)]; exact s52⟩, fun j hj => ?_, fun j hj => ?_, fun j hj => ?_, fun j hj => ?_⟩
    · have z := c6 j hj
      rw [bk 21 (by decide), bk 22 (by decide), bk 23 (by decide)] at z
      rw [va 21 (by decide), va 22 (by decide), va 23 (by decide)]
      exact z
    · have z := c7 j hj
      rw [bk 25 (by decide), bk 26 (by decide), bk 27 (by decide), bk 28 (by decide)] at z
      rw [va 25 (by decide), va 26 (by decide), va 27 (by decide), va 28 (by decide)]
      exact z
    · have z := c8 j hj
      rw [bk 30 (by decide), bk 31 (by decide), bk 32 (by decide)] at z
      rw [va 30 (by decide), va 31 (by decide), va 32 (by decide)]
      exact z
    · have z := c9 j hj
      rw [bk 34 (by decide), bk 35 (by decide), bk 36 (by decide), bk 37 (by decide)] at z
      rw [va 34 (by decide), va 35 (by decide), va 36 (by decide), va 37 (by decide)]
      exact z
  obtain ⟨s2, t2, g2, d2, l2, j2, nv2⟩ := v302 (r := vw S s c) (Or.inr v2)
  have nx : ∀ {P : RVW → Prop} {q : RVW}, ¬ P q → (∃ w ∈ [q], P w) → False := fun hn ⟨w, hw, p⟩ => hn (by rw [← List.mem_singleton.mp hw]; exact p)
  refine ⟨cd1, ct7, cd2, Ψ, fun sl => ?_, ?_⟩
  · have slb : SLO b := by unfold SLO at sl ⊢; rw [bi]; exact sl
    obtain ⟨⟨z1, -⟩, F, M, z2, z3⟩ := sax slb
    refine ⟨?_, F, M, ?_, fun FC nm gh => z3 FC nm ⟨fun y y1 y2 _ => gh.1 y (by rw [bi] at y1; exact y1) (by rw [vi 29 (by decide)]; exact y2), fun k l q => gh.2 k l ?_⟩⟩
    · unfold SLO at z1 ⊢
      rw [vi 42 (by decide), vi 20 (by decide)]
      exact z1
    · unfold GHM at z2 ⊢
      rw [r23, vi 42 (by decide)]
      rw [w23, bi] at z2
      exact z2
    · rw [r23, vi 42 (by decide)]
      rw [w23, bi] at q
      exact q
  intro FC SF nm X c' h w W' we g0 ps fc fr ng hc hh ty hW hE ex hg
  have lo := ty.lo
  have cdW : CD1 0 0 S0 W := ⟨⟨by rw [w20]; exact Int.le_refl _, by rw [w20]; omega, by rw [w21]; omega⟩, fun j _ => by rw [w15, w16]; exact ⟨rfl, rfl⟩, by rw [w21]; exact Int.le_refl _, by rw [w50]; exact Int.le_refl _, fun k _ => by rw [w48, w49]; exact ⟨rfl, rfl⟩, ⟨by rw [w23]; exact Int.le_refl _, by rw [w23]; omega⟩, w38, by rw [w22]; exact Int.le_refl _, fun k _ => by rw [w19]⟩
  have cdb : CD2 0 s0 b := ⟨⟨by rw [bi]; exact Int.le_refl _, by rw [bi]; exact Int.le_refl _, by rw [bi]; exact Int.le_refl _, by rw [bi]; exact Int.le_refl _, SLC.eq (by rw [bi]) (by rw [bi]; exact Int.le_refl _), by rw [bi]⟩, fun j _ => by rw [bk 21 (by decide), bk 22 (by decide), bk 23 (by decide)]; exact ⟨rfl, rfl, rfl⟩, fun j _ => by rw [bk 25 (by decide), bk 26 (by decide), bk 27 (by decide), bk 28 (by decide)]; exact ⟨rfl, rfl, rfl, rfl⟩, fun j _ => by rw [bk 30 (by decide), bk 31 (by decide), bk 32 (by decide)]; exact ⟨rfl, rfl, rfl⟩, fun j _ => by rw [bk 34 (by decide), bk 35 (by decide), bk 36 (by decide), bk 37 (by decide)]; exact ⟨rfl, rfl, rfl, rfl⟩⟩
  have ngb : NMG nm ((5, h, q0, 0, 0, 0, 0) :: c') W b := ng.mv n50 cdW cdb (by rw [bi]) (fun j _ => by rw [bk 40 (by decide)]) (by rw [bi]; exact Int.le_refl _)
  have mw : ((2 * h + msr ((5, h, q0, 0, 0, 0, 0) :: c') : Nat) : Int) ≤ (b.i 11).toInt + 1 := by
    rw [msr_arm, bi]
    omega
  have pS0 : ((pcC S0 : Nat) : Int) = (S0.i 20).toInt := Int.toNat_of_nonneg b01
  have pR : ((pcC R : Nat) : Int) = (R.i 20).toInt := Int.toNat_of_nonneg (by rw [r20]; omega)
  have pW : pcC W = pcC S0 := by unfold pcC; rw [w20]
  have pb : pcR b = pcR s0 := by unfold pcR; rw [bi]
  have lR : pcC S0 ≤ pcC R := by
    rw [r20] at pR
    omega
  obtain ⟨-, mn⟩ := main FC SF nm X h (w + pcC R) ((5, h, q0, 0, 0, 0, 0) :: c') ps ngb hc.arm mw (by omega)
  obtain ⟨⟨f1, f1'⟩, f2, f3⟩ := fc
  obtain ⟨⟨g1, g1', g1''⟩, g3, g4, g5, g6⟩ := fr
  have ex' := ex
  obtain ⟨pe', qe', -, -, -, x0, x5⟩ := ex'
  have frs' : (S0.i 38).toInt = (frs c' : Int) := by
    have z := ng.2.1
    have z' : (((frs c' + (if (5 : Nat) ≤ 3 then 1 else 0) : Nat)) : Int) = (S0.i 38).toInt := z
    rw [if_neg (by decide)] at z'
    omega
  have l47 : (b.a 47 ((s0.i 43).toInt - 1).toNat).toInt = (c'.length : Int) + 1 := by
    have z := ng.2.2.1
    have z' : ((c'.length + 1 : Nat) : Int) = (s0.i 52).toInt := z
    rw [bk 47 (by decide), g47.2]
    omega
  have hA : ARB U W b a ((s0.i 43).toInt - 1).toNat FC SF nm X h (w + pcC R) ((5, h, q0, 0, 0, 0, 0) :: c') := ⟨by rw [wx]; exact ⟨x0, x5⟩, q0, we, c', rfl, by omega, by omega, by rw [wx]; exact ex, by rw [w2]; exact frs', l47⟩
  have gu := (mn ⟨⟨by rw [w20]; exact f1, by rw [← r20]; exact f1'⟩, fun j j1 j2' => ?_, fun k k1' k2' k3' => ?_⟩ ⟨⟨by rw [bi]; exact g1, by rw [← vi 20 (by decide)]; exact g1', g1''⟩, fun j j1 j2' => ?_, fun j j1 j2' => ?_, fun j j1 j2' _ => ?_, fun j j1 j2' => ?_⟩ hA ((ty.up (by omega)).arm) ⟨⟨fun z => absurd z (nv2 _ (by decide)), fun z => absurd z (nv2 _ (by decide)), fun z => absurd z (nv2 _ (by decide)), fun z => absurd z (nv2 _ (by decide)), fun z => absurd z (nv2 _ (by decide)), fun z => absurd z (nv2 _ (by decide)), fun z => absurd z (nv2 _ (by decide)), fun z => absurd z t2, fun z => absurd z g2⟩, True.intro⟩ (fun z => ⟨ty.lt (late z) _ _ _ _ _ _ (by decide), ty.lt (late z) _ _ _ _ _ _ (by decide)⟩)).1
  · rw [pW, pb] at gu
    have ew : w + pcC R - pcC S0 = w + (pcC R - pcC S0) := by omega
    rw [ew] at gu
    have hg' : g0 = 0 ∨ g0 = 1 := by omega
    rcases hg' with z | z
    · rw [z]
      exact gu.1
    · rw [z]
      exact gu.2
  · have z := f2 j (by rw [w20] at j1; exact j1) (by rw [r20]; exact j2')
    rw [ra 15 (by decide), ra 16 (by decide)] at z
    exact z
  · have z := f3 k (by rw [w21] at k1'; exact k1') (by rw [r21]; exact k2') (by rw [ra 17 (by decide), r21]; exact k3'.imp_right (fun q => q.1))
    rw [ra 17 (by decide)] at z
    exact z
  · have z := g3 j (by rw [bi] at j1; exact j1) (by rw [vi 20 (by decide)]; exact j2')
    rw [va 21 (by decide), va 22 (by decide), va 23 (by decide)] at z
    exact ⟨z.1, fun _ => z.2.1, fun _ => z.2.2⟩
  · have z := g4 j (by rw [bi] at j1; exact j1) (by rw [vi 24 (by decide)]; exact j2')
    rw [va 25 (by decide), va 26 (by decide), va 27 (by decide), va 28 (by decide)] at z
    exact ⟨z.1, z.2.1, fun _ => z.2.2.1, z.2.2.2⟩
  · have z := g5 j (by rw [bi] at j1; exact j1) (by rw [vi 29 (by decide)]; exact j2')
    rw [va 30 (by decide), va 31 (by decide), va 32 (by decide)] at z
    exact z
  · have z := g6 j (by rw [bi] at j1; exact j1) (by rw [vi 33 (by decide)]; exact j2')
    rw [va 34 (by decide), va 35 (by decide), va 36 (by decide), va 37 (by decide)] at z
    exact ⟨z.1, z.2.1, z.2.2.1, fun _ => z.2.2.2⟩
set_option maxHeartbeats 4000000 in
theorem ab_end {N : Nat} (hN : 1000 ≤ N) {E1 : CS → Option (Unit × CS)} {E2 : CS → Option (Int32 × CS)} {d x0 : Int32} {S0 W : CS} {s0 b : RS} {t a m n : Nat} {S : CS} {s U : RS} {c : CEL} {P : Unit × CS} (hv0 : ENV d S0 s0) (hr : ABR x0 t a m S0 s0 W b) (h036 : S0.i 36 = 0 ∨ S0.i 36 = 1) (h : STI (ARB U W b a ((s0.i 43).toInt - 1).toNat) U d W b (t + 1) S s c []) (tk : S.i 43 = 125 ∨ S.i 43 = 0 ∨ S.i 43 = 219 ∨ S.i 43 = 220) (k : KTN N E1 E2 S c.2.1 P) (g : f_X12_parse_10 N n s = some U) : (¬ P.2.i 32 = 0 ∧ ¬ U.i 15 = 0) ∨ ((P.2.i 53).toInt ≤ (m : Int) ∧ ∃ (mm : Nat) (u : RS), f_X12_parse_10 N mm u = some U ∧ AXO d t S0 s0 (CS.setI (CS.setI P.2 56 (P.2.o a 16)) 36 (S0.i 36)) u ∧ ABD x0 t U S0 s0 (CS.setI (CS.setI P.2 56 (P.2.o a 16)) 36 (S0.i 36)) u) := by
  obtain ⟨x, hC, tp, ⟨hM, h36⟩, bz, bt, -, jx⟩ := h
  have hr' := hr
  have hv := hC.1
  have cb := hC.2.2.2.2.1
  obtain ⟨⟨⟨r1, r2⟩, r53, r54, r55, r22, r38, r21, r44, r56⟩, ⟨ra18, ra52, rrow, rro⟩, ⟨rm, ro0, ro3, ro16, ro14⟩, ⟨bi, bb, ba, baj⟩, -⟩ := hr
  obtain ⟨-, ⟨z43, -⟩, z56, -, -, ⟨b7, b8, -⟩, -⟩ := id bz
  have ec1 : c.1 = m := by omega
  have ec2 : c.2.1 = a := by
    rw [ec1, rm] at b8
    exact (Option.some.inj b8).symm
  have eo : S.o a = W.o a := by
    have z := (cb.2.1 c.1 c.2.1 (by omega) b8).1
    rw [ec2] at z
    exact z
  rw [ec2] at k
  have h302 : S.o a 0 = 302 := by rw [eo]; exact ro0
  have bt' : t + 1 + 1 = ceT c + wid (W.o c.2.1 0) := bt
  have wdW : wid (W.o c.2.1 0) = 2 := by rw [ec2, ro0]; rfl
  have et : ceT c = t := by omega
  have wdS : wid (S.o c.2.1 0) = 2 := by rw [ec2, h302]; rfl
  have no : ¬ isOne (S.o a 0) := by rw [h302]; unfold isOne; decide
  have hL : MLI c S s := by
    rcases hM with z | z | z | z | z
    · exact z
    · exact absurd z.1 (by rw [ec2]; exact no)
    · exact absurd z.1 (by rw [ec2]; exact no)
    · have z1 := z.1
      rw [ec2] at z1
      exact absurd (h302.symm.trans z1) (by decide)
    · have z1 := z.1
      rw [ec2] at z1
      exact absurd (h302.symm.trans z1) (by decide)
  obtain ⟨-, -, ts, h64, hmode, -⟩ := hL
  have ix : ceT c + wid (S.o c.2.1 0) - 1 = t + 1 := by omega
  rw [ix] at h64 hmode
  have ts' : tpI s = ((t + 1 : Nat) : Int) := by
    rw [ts, wdS, et]
    omega
  obtain ⟨m1', e1', k1', m2', e2', k2', cst⟩ := STK.mem _ _ _ _ hC.2.1 c List.mem_cons_self
  obtain ⟨f64, f65, f71, -⟩ := cst.2.2.1.2.2.1 (by rw [ec2]; exact h302)
  rw [et] at f64 f65 f71
  rw [ec2] at f71
  have k125 := tk_is hv (a := 125) (b := 125) (Or.inl ⟨by decide, by decide⟩) (by decide)
  have k9 := tk_is hv (a := 219) (b := 429) (Or.inr ⟨by decide, by decide⟩) (by decide)
  have k20 := tk_is hv (a := 220) (b := 430) (Or.inr ⟨by decide, by decide⟩) (by decide)
  have k0 := tk_is hv (a := 0) (b := 0) (Or.inl ⟨by decide, by decide⟩) (by decide)
  have h10 : s.i 10 = 125 ∨ s.i 10 = 429 ∨ s.i 10 = 430 ∨ s.i 10 = 0 := by
    rcases tk with z | z | z | z
    · exact Or.inl (k125.mp z)
    · exact Or.inr (Or.inr (Or.inr (k0.mp z)))
    · exact Or.inr (Or.inl (k9.mp z))
    · exact Or.inr (Or.inr (Or.inl (k20.mp z)))
  obtain ⟨m0, V0, g0, n1, n2, n3, n4, n5, n6, n7, n8, n9, n19, n64, ni, na, nbb⟩ := y_lend hv ts' h64 hmode h36 h10 g
  have tV : tpI V0 = (t : Int) := by rw [n2]; omega
  have fT := n3 t (by omega)
  obtain ⟨t9, m1, V1, g1, hV⟩ := am_ref n1 tV (fT.1.trans f64) (fT.2.1.trans f65) g0
  by_cases c125 : S.i 43 = 125
  · -- the sign
    right
    have k10 : V0.i 10 = 125 := n7.trans (k125.mp c125)
    -- note
    have nt : ∃ (S' : CS) (V' : RS), ENV d S' V' ∧ (S' = S ∨ S' = CS.setI S 37 (S.i 44)) ∧ (V' = V0 ∨ V' = RS.setI V0 18 (V0.i 11)) ∧ f_X7_endList_72 N S' a = some P ∧ f_X12_arms_435 N V' (V0.i 63) = some V1 ∧ (S.i 36 = 1 → 0 ≤ V'.i 18) := by
      rcases k with ⟨z, -⟩ | ⟨⟨z, -⟩, -⟩ | ⟨⟨z, -⟩, -⟩ | ⟨-, -, k⟩ | ⟨⟨-, z⟩, -⟩ | ⟨-, ⟨q1, -⟩, -⟩
      · exact absurd z no
      · exact absurd (h302.symm.trans z) (by decide)
      · exact absurd (h302.symm.trans z) (by decide)
      · unfold f_X7_endList at k
        obtain ⟨-, k⟩ := hf_ite k
        rw [if_neg (by rw [h302]; decide), if_pos h302] at k
        by_cases z : S.i 36 = 0
        · rw [if_pos z] at k
          rw [if_pos (n5.trans z)] at hV
          exact ⟨S, V0, n1, Or.inl rfl, Or.inl rfl, k, hV, fun y => absurd (z.symm.trans y) (by decide)⟩
        · rw [if_neg z] at k
          rw [if_neg (by rw [n5]; exact z), if_pos k10] at hV
          obtain ⟨p49, e49, k⟩ := hf_bind k
          obtain ⟨p75, e75, hV⟩ := hf_bind hV
          obtain ⟨y1, y2, y3⟩ := y_note n1 e49 e75
          exact ⟨p49.2, p75, y1, y2, y3, k, hV, fun _ => note_nn n1.1.2.1 (Int32.le_iff_toInt_le.mpr (by have := (i11_hi n1).1; rw [z_t0]; omega)) e75⟩
      · exact absurd (h302.symm.trans z) (by decide)
      · exact absurd c125 q1
    obtain ⟨S', V', evV, hS', hV', e72, hV435, late⟩ := nt
    clear hV
    have Si : ∀ j : Nat, j ≠ 37 → S'.i j = S.i j := fun j hj => by
      rcases hS' with z | z
      · rw [z]
      · rw [z, ci_ne _ _ _ hj]
    have Sx : S'.r = S.r ∧ S'.o = S.o ∧ S'.ol = S.ol ∧ S'.a = S.a ∧ (S'.hs = S.hs ∧ S'.L = S.L ∧ S'.k = S.k) := by
      rcases hS' with z | z <;> rw [z] <;> exact ⟨rfl, rfl, rfl, rfl, rfl, rfl, rfl⟩
    have Vi : ∀ j : Nat, j ≠ 18 → V'.i j = V0.i j := fun j hj => by
      rcases hV' with z | z
      · rw [z]
      · rw [z]
        exact if_neg hj
    have Vx : V'.a = V0.a ∧ V'.b = V0.b := by
      rcases hV' with z | z <;> rw [z] <;> exact ⟨rfl, rfl⟩
    clear hS' hV'
    have S43 : S'.i 43 = 125 := (Si 43 (by decide)).trans c125
    unfold f_X12_arms_435 at hV435
    obtain ⟨p71, hsh, hV435⟩ := hf_bind hV435
    obtain ⟨-, hV435⟩ := hf_ite hV435
    rw [tp_nat tV] at hV435
    unfold f_X7_endList_72 at e72
    obtain ⟨p4, e4, e72⟩ := hf_bind e72
    obtain ⟨A, q, eA, hq, evA, R4, V4, -⟩ := y_clsA hN evV (c := 125) (d := 125) (Or.inl ⟨by decide, by decide⟩) (by decide) (by decide) (by decide) S43 e4 hsh
    obtain ⟨-, a2, a3, a4, a5, a6, a7, a8, a9, a10⟩ := evV.adv hN (by rw [S43]; decide) eA hq
    obtain ⟨-, -, -, -, -, -, -, -, -, -, j36, -, j38, j50, j53, j54, j55, j56, -, -, j48, j49, j52, jr, jo, jol, -, j21, jhk⟩ := pj_eq a3
    obtain ⟨-, e72⟩ := hf_ite e72
    have Ao : A.2.o = S.o := jo.trans Sx.2.1
    have o4 : ∀ w : Int32, (CS.setI p4.2 50 w).o a 0 = 302 := fun w => by
      show p4.2.o a 0 = 302
      rw [R4]
      show A.2.o a 0 = 302
      rw [Ao]
      exact h302
    rw [if_neg (by rw [o4]; decide), if_neg (by rw [o4]; decide), if_neg (by rw [o4]; decide), if_neg (by rw [o4]; decide), if_neg (by rw [o4]; decide), if_neg (by rw [o4]; decide), if_neg (by rw [o4]; decide)] at e72
    have ep := ob_un e72
    have o3 : p4.2.o a 3 = S0.i 50 := by
      rw [R4]
      show A.2.o a 3 = _
      rw [Ao, eo]
      exact ro3
    rw [o3] at ep
    have A53 : A.2.i 53 = S.i 53 := j53.trans (Si 53 (by decide))
    have t1 := tp.1
    have A53i : (A.2.i 53).toInt = (m : Int) + 1 := by rw [A53, t1, ec1]
    -- the class's last state
    obtain ⟨pv, hpv, eP⟩ : ∃ pv : Int32, pv.toInt = (m : Int) ∧ P.2 = CS.setI (CS.setI (CS.setI A.2 34 (A.2.i 34 - 1)) 50 (S0.i 50)) 53 pv := by
      unfold f_X6_pop at ep
      have i53 : (CS.setI p4.2 50 (S0.i 50)).i 53 = A.2.i 53 := by rw [ci_ne _ _ _ (by decide), R4, ci_ne _ _ _ (by decide)]
      rw [i53] at ep
      have q1 := m1_int A53i
      rw [R4] at ep
      by_cases z : 0 < A.2.i 53 - 1
      · rw [if_pos z] at ep
        exact ⟨_, q1, by rw [← Option.some.inj ep]⟩
      · rw [if_neg z] at ep
        refine ⟨0, ?_, by rw [← Option.some.inj ep]⟩
        rw [z_t0]
        have : ¬ (0 : Int32).toInt < (A.2.i 53 - 1).toInt := fun y => z (Int32.lt_iff_toInt_lt.mpr y)
        rw [z_t0, q1] at this
        omega
    have P16 : P.2.o a 16 = S0.i 56 := by
      rw [eP]
      show A.2.o a 16 = _
      rw [Ao, eo]
      exact ro16
    have eR : CS.setI (CS.setI P.2 56 (P.2.o a 16)) 36 (S0.i 36) = CS.setI (CS.setI (CS.setI (CS.setI (CS.setI A.2 50 (S0.i 50)) 53 pv) 56 (S0.i 56)) 36 (S0.i 36)) 34 (A.2.i 34 - 1) := by
      rw [P16, eP, csI_comm (s := A.2) (j := 34) (k := 50) (by decide), csI_comm (j := 34) (k := 53) (by decide), csI_comm (j := 34) (k := 56) (by decide), csI_comm (j := 34) (k := 36) (by decide)]
    have q71 : q.a 71 t = S0.i 50 := by
      rw [((FRB.of a2 : FRB (t + 1) V' q) t (by omega)).2.2.2.2.2.2.2.1, Vx.1, fT.2.2.2.2.2.2.2.1, f71, eo]
      exact ro3
    have s50 := hv0.2.1.1
    have eV : V1 = RS.setA (RS.setI (RS.setI q 38 (S0.i 50)) 19 (q.i 19 - 1)) 65 t 2 := by
      rw [← Option.some.inj hV435, V4, ← q71, rsI_comm (r := q) (j := 38) (k := 19) (by decide)]
      rfl
    obtain ⟨Y, hY⟩ : ∃ Y, Y = CS.setI (CS.setI (CS.setI (CS.setI A.2 50 (S0.i 50)) 53 pv) 56 (S0.i 56)) 36 (S0.i 36) := ⟨_, rfl⟩
    have Yi : ∀ j : Nat, j ≠ 36 → j ≠ 50 → j ≠ 53 → j ≠ 56 → Y.i j = A.2.i j := fun j h1 h2 h3 h4 => by rw [hY, ci_ne _ _ _ h1, ci_ne _ _ _ h4, ci_ne _ _ _ h3, ci_ne _ _ _ h2]
    have Y36 : Y.i 36 = S0.i 36 := by rw [hY, ci_at]
    have Y56 : Y.i 56 = S0.i 56 := by rw [hY, ci_ne _ _ _ (by decide), ci_at]
    have Y53 : Y.i 53 = pv := by rw [hY, ci_ne _ _ _ (by decide), ci_ne _ _ _ (by decide), ci_at]
    have Y50 : Y.i 50 = S0.i 50 := by rw [hY, ci_ne _ _ _ (by decide), ci_ne _ _ _ (by decide), ci_ne _ _ _ (by decide), ci_at]
    have Yx : Y.r = A.2.r ∧ Y.o = A.2.o ∧ Y.ol = A.2.ol ∧ Y.a = A.2.a ∧ Y.b = A.2.b ∧ Y.l = A.2.l ∧ (Y.hs = A.2.hs ∧ Y.L = A.2.L ∧ Y.k = A.2.k) := by rw [hY]; exact ⟨rfl, rfl, rfl, rfl, rfl, rfl, rfl, rfl, rfl⟩
    rw [← hY] at eR
    clear hY
    -- all that stands at the arm's end
    have tbb := hC.2.2.2.2.2.1.2.1
    have frb := hC.2.2.2.2.2.1.1
    have cdk := hC.2.2.2.2.2.1.2.2.1
    obtain ⟨w2, w3, w8, wa1, wa4, wb9⟩ := hC.2.2.2.2.2.1.2.2.2
    obtain ⟨x11, xph, x17, xsg⟩ := hC.2.2.2.2.2.2.1
    have dps := hC.2.2.2.2.2.2.2.1.1
    have obs := hC.2.2.2.2.2.2.2.1.2
    have jm := hC.2.2.1
    have d1 : DSM S [c] = (nDp (S.o c.2.1 0) : Int) + 0 := rfl
    have d2 : nDp (S.o c.2.1 0) = 0 := by rw [ec2, h302]; rfl
    have d3 : SSM S [c] = (nSg (S.o c.2.1 0) : Int) + 0 := rfl
    have d4 : nSg (S.o c.2.1 0) = 1 := by rw [ec2, h302]; rfl
    have d5 : PDM S [c] = dbt (S.o c.2.1 0) + 0 := rfl
    have d6 : dbt (S.o c.2.1 0) = 0 := by rw [ec2, h302]; rfl
    rw [d1, d2] at dps
    rw [d3, d4] at xsg
    rw [d5, d6] at xph
    have S38 : S.i 38 = S0.i 38 := by
      rw [← r38]
      refine Int32.toInt_inj.mp ?_
      rw [dps]
      show _ + ((0 : Int) + 0) = _
      omega
    have S22 : S.i 22 = S0.i 22 := by
      rw [← r22]
      refine Int32.toInt_inj.mp ?_
      have z := obs.2.2.1
      have z' : cfl S [] (if S.o c.2.1 0 = 218 then (S.o c.2.1 13).toInt else (S.i 22).toInt) = (W.i 22).toInt := z
      rw [if_neg (by rw [ec2, h302]; decide)] at z'
      exact z'
    have g0' : nGo (S.o c.2.1 0) = 0 := by rw [ec2, h302]; rfl
    have g1' : nWl (S.o c.2.1 0) = 0 := by rw [ec2, h302]; rfl
    have tp2 := tp.2.1
    have tp3 := tp.2.2
    rw [g0'] at tp2
    rw [g1'] at tp3
    rw [bi] at z43 z56
    have s43 : s.i 43 = s0.i 43 := Int32.toInt_inj.mp (by omega)
    have s56 : s.i 56 = s0.i 56 := Int32.toInt_inj.mp (by omega)
    -- from s to the last state
    have Vs : ∀ j : Nat, j ≠ 18 → j ≠ 63 → j ≠ 75 → V'.i j = s.i j := fun j h1 h2 h3 => (Vi j h1).trans (ni j h2 h3)
    have Va : ∀ j : Nat, j ≠ 66 → V'.a j = s.a j := fun j hj => by rw [Vx.1]; exact na j hj
    have Vb : V'.b = s.b := Vx.2.trans nbb
    have Ui : ∀ j : Nat, j ≠ 19 → j ≠ 38 → V1.i j = q.i j := fun j h1 h2 => by
      rw [eV]
      exact (if_neg h1).trans (if_neg h2)
    have U38 : V1.i 38 = s0.i 38 := by
      rw [eV]
      exact s50
    have U19 : V1.i 19 = q.i 19 - 1 := by rw [eV]; rfl
    have Ua : ∀ j : Nat, j ≠ 65 → V1.a j = q.a j := fun j hj => by
      rw [eV, setA_nk hj]
      rfl
    have U65 : V1.a 65 t = 2 := by rw [eV]; exact setA_at
    have U65j : ∀ j : Nat, j ≠ t → V1.a 65 j = q.a 65 j := fun j hj => by
      rw [eV, setA_ne hj]
      rfl
    have Ub : V1.b = q.b := by rw [eV]; rfl
    have q17 : (q.i 17).toInt = (V'.i 17).toInt + 1 := by rw [a4, t17_up (N := N) evV]
    have qjl := qj_eq a2
    obtain ⟨c2, c3, c8, -, c24, c29, c33, -, -, c43, -, -, -, -, c56, c59, c63, -⟩ := id qjl
    have J : ∀ j : Nat, (j = 2 ∨ j = 3 ∨ j = 8 ∨ j = 24 ∨ j = 29 ∨ j = 33 ∨ j = 43 ∨ j = 56 ∨ j = 59 ∨ j = 20) → V1.i j = s.i j := fun j hj => by
      rw [Ui j (by omega) (by omega), ← Vs j (by omega) (by omega) (by omega)]
      rcases hj with z | z | z | z | z | z | z | z | z | z <;> rw [z]
      · exact c2
      · exact c3
      · exact c8
      · exact c24
      · exact c29
      · exact c33
      · exact c43
      · exact c56
      · exact c59
      · exact a6
    have AA : ∀ j : Nat, (j = 1 ∨ j = 4 ∨ j = 25 ∨ j = 27 ∨ j = 28 ∨ j = 30 ∨ j = 34 ∨ j = 37 ∨ j = 40 ∨ j = 41 ∨ j = 44 ∨ j = 46 ∨ j = 47 ∨ j = 48 ∨ j = 49 ∨ j = 50 ∨ j = 51 ∨ j = 57 ∨ j = 58 ∨ j = 60 ∨ j = 61 ∨ j = 62) → V1.a j = s.a j := fun j hj => by
      rw [Ua j (by omega), qj_a a2 j hj, Va j (by omega)]
    have A22 : V1.a 22 = s.a 22 := by rw [Ua 22 (by decide), a7, Va 22 (by decide)]
    have BB : V1.b 9 = s.b 9 ∧ V1.b 39 = s.b 39 ∧ V1.b 45 = s.b 45 := by
      obtain ⟨y1, y2, y3⟩ := qj_b a2
      rw [Ub, y1, y2, y3, Vb]
      exact ⟨rfl, rfl, rfl⟩
    have b2s : ∀ j : Nat, j ≠ 65 → j ≠ 71 → b.a j = s0.a j := ba
    have evY : ENV d Y (RS.setI q 38 (S0.i 50)) := by
      have nm : 2 ≤ (S0.i 50).toInt ∧ (S0.i 50).toInt ≤ (q.i 38).toInt := by
        have z1 := tbb.1
        rw [bi] at z1
        have z2 : q.i 38 = s.i 38 := by
          rw [(qj_eq a2).2.2.2.2.2.2.2.1, Vs 38 (by decide) (by decide) (by decide)]
        rw [s50, z2]
        exact ⟨hv0.2.1.2.1.1, z1⟩
      have ev1 := evA.less (w := S0.i 50) nm
      refine ev1.gx (fun j _ h36 _ h53 _ _ h56 => ?_) ⟨by rw [Yx.2.2.2.1]; rfl, by rw [Yx.2.2.2.1]; rfl, by rw [Yx.2.2.2.1]; rfl⟩ Yx.2.2.2.2.1 Yx.2.2.2.2.2.1 ?_ ?_ ?_
      · by_cases z : j = 50
        · rw [z, Y50, ci_at]
        · rw [Yi j h36 z h53 h56, ci_ne _ _ _ z]
      · have w := evA.ri
        refine w.pop (n := m) A53i Yx.1 Yx.2.1 Yx.2.2.1 (by show (Y.i 53).toInt = _; rw [Y53]; exact hpv) Yx.2.2.2.2.2.2 ?_ ?_
        · have w8 := w.2.2.2.2.2.2
          have tn : (cnI A.2).toNat = m + 1 := by
            have : cnI A.2 = (A.2.i 53).toInt := rfl
            omega
          rw [tn] at w8
          have z : sgI Y = sgI A.2 := by
            unfold sgI
            rw [Yi 34 (by decide) (by decide) (by decide) (by decide)]
          have s0' : 0 ≤ sgn A.2 (rowA A.2 m) := by
            unfold sgn
            by_cases k1 : A.2.o (rowA A.2 m) 0 = 302
            · rw [if_pos k1]; decide
            · rw [if_neg k1]
              by_cases k2 : A.2.o (rowA A.2 m) 0 = 301 ∨ A.2.o (rowA A.2 m) 0 = 212 ∨ A.2.o (rowA A.2 m) 0 = 218 ∨ A.2.o (rowA A.2 m) 0 = 213 ∨ A.2.o (rowA A.2 m) 0 = 215 ∨ A.2.o (rowA A.2 m) 0 = 216
              · rw [if_pos k2]; decide
              · rw [if_neg k2]; exact Int.le_refl _
          omega
        · unfold eI plI
          rw [Yi 43 (by decide) (by decide) (by decide) (by decide), Yi 44 (by decide) (by decide) (by decide) (by decide)]
          exact Int.le_refl _
      · have z := ev1.sj
        have c54 : (CS.setI A.2 50 (S0.i 50)).i 54 = A.2.i 54 ∧ (CS.setI A.2 50 (S0.i 50)).i 55 = A.2.i 55 ∧ (CS.setI A.2 50 (S0.i 50)).i 38 = A.2.i 38 := ⟨rfl, rfl, rfl⟩
        unfold SJB at *
        rw [c54.1, c54.2.1, c54.2.2] at z
        rw [Yi 54 (by decide) (by decide) (by decide) (by decide), Yi 55 (by decide) (by decide) (by decide) (by decide), Yi 38 (by decide) (by decide) (by decide) (by decide)]
        exact z
      · rw [Yi 21 (by decide) (by decide) (by decide) (by decide)]
        exact ev1.t21
    have sg2 : sgn A.2 (rowA A.2 m) = 2 := by
      have ra : rowA A.2 m = a := by
        unfold rowA
        have z : A.2.r 51 m = some a := by
          rw [jr, Sx.1, cb.1 m (by omega)]
          exact rm
        rw [z]
        rfl
      rw [ra]
      unfold sgn
      rw [Ao, if_pos h302]
    have evF := pop_sg (n := m) evA (X := Y) (V := RS.setI q 38 (S0.i 50)) Yx.1 Yx.2.1 Yx.2.2.1 A53i (by rw [Y53]; exact hpv) (by rw [sg2]; decide) evY rfl
    have evU : ENV d (CS.setI Y 34 (A.2.i 34 - 1)) V1 := by
      rw [eV]
      exact setA_env (Or.inr ⟨by decide, by decide⟩) evF
    have Ri : ∀ j : Nat, j ≠ 34 → (CS.setI Y 34 (A.2.i 34 - 1)).i j = Y.i j := fun j hj => ci_ne _ _ _ hj
    have s19 : (q.i 19 - 1).toInt = (q.i 19).toInt - 1 := sub19 evA
    have v19 : (q.i 19).toInt = (s.i 19).toInt := by rw [a10, Vs 19 (by decide) (by decide) (by decide)]
    have qeq := qe_eq (kre_f_X12_next N V' q hq)
    have peA := pe_eq (ke_X9_advance N S' A eA)
    have abd : ABD x0 t U S0 s0 (CS.setI Y 34 (A.2.i 34 - 1)) V1 := by
      have h44 : (S.i 44).toInt + 1 ≤ (A.2.i 44).toInt := by
        have z1 := hv.1.2.2.2.1.1
        have z2 := evA.1.2.2.2.1.1
        have z3 := Vs 11 (by decide) (by decide) (by decide)
        rw [z1, z2, ← z3]
        exact a5
      have y34 : ∀ j : Nat, j ≠ 34 → j ≠ 36 → j ≠ 50 → j ≠ 53 → j ≠ 56 → (CS.setI Y 34 (A.2.i 34 - 1)).i j = A.2.i j := fun j h0 h1 h2 h3 h4 => (Ri j h0).trans (Yi j h1 h2 h3 h4)
      refine arm_cod (c := c) (S := S) (s := s) hr' s50 (by have := (i11_hi hv0).2; omega) (by rw [vw_v, ec2]; exact h302) (jx.w (by rw [ec2, h302]; decide)) tbb.1 ?_ ⟨?_, ?_, ?_, ?_⟩ ?_ ?_ (fun k hk => ?_) (fun k hk => ?_) (fun k hk => ?_) (fun z => ?_)
      · rw [y34 44 (by decide) (by decide) (by decide) (by decide) (by decide)]
        exact h44
      · rw [y34 20 (by decide) (by decide) (by decide) (by decide) (by decide), peA.1, Si 20 (by decide)]
      · rw [y34 21 (by decide) (by decide) (by decide) (by decide) (by decide), j21, Si 21 (by decide)]
      · rw [y34 22 (by decide) (by decide) (by decide) (by decide) (by decide), peA.2.2.2.2.2.2.1, Si 22 (by decide)]
      · rw [y34 23 (by decide) (by decide) (by decide) (by decide) (by decide), peA.2.2.2.2.1, Si 23 (by decide)]
      · rw [y34 38 (by decide) (by decide) (by decide) (by decide) (by decide), j38, Si 38 (by decide)]
        exact S38
      · rw [Ri 50 (by decide)]
        exact Y50
      · show Y.a k = S.a k
        rw [Yx.2.2.2.1, ← Sx.2.2.2.1]
        rcases hk with z | z | z | z | z | z <;> rw [z]
        · exact peA.2.1
        · exact peA.2.2.1
        · exact peA.2.2.2.1
        · exact peA.2.2.2.2.2.2.2
        · exact j48
        · exact j49
      · obtain ⟨⟨e20, e24, e29, e33, e42, e52⟩, -⟩ := qeq
        rw [Ui k (by omega) (by omega), ← Vs k (by omega) (by omega) (by omega)]
        rcases hk with z | z | z | z | z | z <;> rw [z]
        · exact e20
        · exact e24
        · exact e29
        · exact e33
        · exact e42
        · exact e52
      · obtain ⟨-, e21, e22, e23, e25, e26, e27, e28, e30, e31, e32, e34, e35, e36, e37⟩ := qeq
        rw [Ua k (by omega), ← Va k (by omega)]
        rcases hk with z | z | z | z | z | z | z | z | z | z | z | z | z | z <;> rw [z]
        · exact e21
        · exact e22
        · exact e23
        · exact e25
        · exact e26
        · exact e27
        · exact e28
        · exact e30
        · exact e31
        · exact e32
        · exact e34
        · exact e35
        · exact e36
        · exact e37
      · have y0 := late z
        have y1 := (kln_f_X12_next N V' q hq).1 y0
        have y2 : V1.i 18 = V'.i 18 := (Ui 18 (by decide) (by decide)).trans y1
        have y3 := (kln_f_X12_parse_10 N m1 V1 U g1).1 (by rw [y2]; exact y0)
        rw [y3, y2]
        exact y0
    refine ⟨?_, m1, V1, g1, ?_, by rw [eR]; exact abd⟩
    · rw [eP, ci_at, hpv]
      exact Int.le_refl _
    rw [eR]
    clear abd
    have k110 := hv0.1.2.2.2.1.1
    have k11s := hv.1.2.2.2.1.1
    have k11u := evU.1.2.2.2.1.1
    have k11u' : Y.i 44 = V1.i 11 := by
      rw [← k11u]
      exact (Ri 44 (by decide)).symm
    have Y54 : Y.i 54 = S.i 54 := by rw [Yi 54 (by decide) (by decide) (by decide) (by decide), j54, Si 54 (by decide)]
    have Y55 : Y.i 55 = S.i 55 := by rw [Yi 55 (by decide) (by decide) (by decide) (by decide), j55, Si 55 (by decide)]
    have Y21 : Y.i 21 = S.i 21 := by rw [Yi 21 (by decide) (by decide) (by decide) (by decide), j21, Si 21 (by decide)]
    have Ya52 : Y.a 52 = S.a 52 := by rw [Yx.2.2.2.1, j52, Sx.2.2.2.1]
    have Ya18 : Y.a 18 = S.a 18 := by rw [Yx.2.2.2.1, a9.1, Sx.2.2.2.1]
    have Yr : Y.r = S.r := by rw [Yx.1, jr, Sx.1]
    have Yo : Y.o = S.o := by rw [Yx.2.1, Ao]
    have Yol : Y.ol = S.ol := by rw [Yx.2.2.1, jol, Sx.2.2.1]
    have u11 : (V1.i 11).toInt = (q.i 11).toInt := by rw [Ui 11 (by decide) (by decide)]
    have v11 : (V'.i 11).toInt = (s.i 11).toInt := by rw [Vs 11 (by decide) (by decide) (by decide)]
    have u17 : (V1.i 17).toInt = (q.i 17).toInt := by rw [Ui 17 (by decide) (by decide)]
    have v17 : (V'.i 17).toInt = (s.i 17).toInt := by rw [Vs 17 (by decide) (by decide) (by decide)]
    have phU : phI V1 = phI s + 3 := by
      unfold phI
      rw [J 20 (by decide), u17, q17, v17]
      omega
    have phb : phI b = phI s0 := by
      unfold phI
      rw [bi]
    obtain ⟨cb1, cb2, cb3, cb4, cb5, cb6, cb7, cb8, cb9, cb10, cb11⟩ := cb
    have cbr := cb10
    unfold RTE at cbr
    refine ⟨evU, ?_, ⟨?_, U65, ?_, ?_, ?_⟩, fun j hj => ?_, ⟨⟨⟨?_, ?_, ?_, U38, ?_, ?_, ?_, ?_, ?_, ?_⟩, fun j hj => ?_, fun j hj => ?_, fun j hj => ?_, ⟨?_, fun j h1 h2 => ?_⟩, fun j hj => ?_, ?_, fun j hj => ?_, ?_, fun j hj => ?_, ?_, fun j hj => ?_⟩, ?_, fun j hj => ?_⟩, ⟨⟨?_, ?_, ?_, ?_, ?_, ?_⟩, fun j hj => ?_, fun j y hj hy => ?_, fun j hj => ?_, ?_, ?_, fun j hj => ?_, fun j h1 h2 => ?_, ?_, ?_, ?_⟩, ?_, ?_, ?_, ?_⟩
    · -- the frame on top
      show (V1.i 63).toInt = _
      rw [Ui 63 (by decide) (by decide), c63, Vi 63 (by decide)]
      exact tV
    · rw [Ua 64 (by decide), ((FRB.of a2 : FRB (t + 1) V' q) t (by omega)).1, Vx.1, fT.1]
      exact f64
    · have z := (frb t (by omega)).2.2.1
      rw [Ua 66 (by decide), ((FRB.of a2 : FRB (t + 1) V' q) t (by omega)).2.2.1, Vx.1, fT.2.2.1, z, ba 66 (by decide) (by decide)]
    · have z := (frb t (by omega)).2.2.2.1
      rw [Ua 67 (by decide), ((FRB.of a2 : FRB (t + 1) V' q) t (by omega)).2.2.2.1, Vx.1, fT.2.2.2.1, z, ba 67 (by decide) (by decide)]
    · have z := (frb t (by omega)).2.2.2.2.1
      rw [Ua 68 (by decide), ((FRB.of a2 : FRB (t + 1) V' q) t (by omega)).2.2.2.2.1, Vx.1, fT.2.2.2.2.1, z, ba 68 (by decide) (by decide)]
    · -- frames below
      obtain ⟨p0, p1, p2, p3, p4', p5, p6, p7, p8, p9, pb⟩ := (FRB.of a2 : FRB (t + 1) V' q) j (by omega)
      obtain ⟨y0, y1, y2, y3, y4, y5, y6, y7, y8, y9, yb⟩ := n3 j (by omega)
      obtain ⟨z0, z1, z2, z3, z4, z5, z6, z7, z8, z9, zb⟩ := frb j (by omega)
      have ej : j ≠ t := by omega
      refine ⟨?_, ?_, ?_, ?_, ?_, ?_, ?_, ?_, ?_, ?_, ?_⟩
      · rw [Ua 64 (by decide), p0, Vx.1, y0, z0, baj 64 j ej]
      · rw [U65j j ej, p1, Vx.1, y1, z1, baj 65 j ej]
      · rw [Ua 66 (by decide), p2, Vx.1, y2, z2, baj 66 j ej]
      · rw [Ua 67 (by decide), p3, Vx.1, y3, z3, baj 67 j ej]
      · rw [Ua 68 (by decide), p4', Vx.1, y4, z4, baj 68 j ej]
      · rw [Ua 69 (by decide), p5, Vx.1, y5, z5, baj 69 j ej]
      · rw [Ua 70 (by decide), p6, Vx.1, y6, z6, baj 70 j ej]
      · rw [Ua 71 (by decide), p7, Vx.1, y7, z7, baj 71 j ej]
      · rw [Ua 72 (by decide), p8, Vx.1, y8, z8, baj 72 j ej]
      · rw [Ua 73 (by decide), p9, Vx.1, y9, z9, baj 73 j ej]
      · rw [Ub, pb, Vx.2, yb, zb, bb]
    · rw [J 2 (by decide), w2, bi]
    · rw [J 3 (by decide), w3, bi]
    · rw [J 8 (by decide), w8, bi]
    · rw [J 43 (by decide), s43]
    · rw [J 2 (by decide), w2, bi]
    · rw [J 56 (by decide), s56]
    · rw [AA 1 (by decide), wa1, ba 1 (by decide) (by decide)]
    · rw [AA 4 (by decide), wa4, ba 4 (by decide) (by decide)]
    · rw [BB.1, wb9, bb]
    · obtain ⟨y1, y2, y3⟩ := tbb.2.2.2.1 j (by rw [bi]; exact hj)
      rw [BB.2.1, AA 40 (by decide), AA 41 (by decide), y1, y2, y3, bb, ba 40 (by decide) (by decide), ba 41 (by decide) (by decide)]
      exact ⟨rfl, rfl, rfl⟩
    · obtain ⟨y1, y2, y3, y4, y5, y6, y7, y8⟩ := tbb.2.2.2.2.1 j (by rw [bi]; exact hj)
      rw [BB.2.2, AA 44 (by decide), AA 46 (by decide), AA 47 (by decide), AA 50 (by decide), AA 51 (by decide), AA 48 (by decide), AA 49 (by decide), y1, y2, y3, y4, y5, y6, y7, y8, bb, ba 44 (by decide) (by decide), ba 46 (by decide) (by decide), ba 47 (by decide) (by decide), ba 50 (by decide) (by decide), ba 51 (by decide) (by decide), ba 48 (by decide) (by decide), ba 49 (by decide) (by decide)]
      exact ⟨rfl, rfl, rfl, rfl, rfl, rfl, rfl, rfl⟩
    · obtain ⟨y1, y2⟩ := tbb.2.2.2.2.2.1 j (by rw [bi]; exact hj)
      rw [AA 57 (by decide), AA 58 (by decide), y1, y2, ba 57 (by decide) (by decide), ba 58 (by decide) (by decide)]
      exact ⟨rfl, rfl⟩
    · have z := tbb.2.2.2.2.2.2.1
      rw [bi] at z
      rw [J 59 (by decide)]
      exact z
    · rw [J 59 (by decide)] at h2
      rw [AA 62 (by decide)]
      rcases jm.2.2.2.1 j (by rw [bi]; exact h1) h2 with z | ⟨y, hy, ty, -⟩
      · exact z
      · exfalso
        rw [List.mem_singleton.mp hy, ec2, h302] at ty
        unfold isTy at ty
        exact absurd ty (by decide)
    · obtain ⟨y1, y2, y3⟩ := tbb.2.2.2.2.2.2.2.1 j (by rw [bi]; exact hj)
      rw [AA 60 (by decide), AA 61 (by decide), AA 62 (by decide), y1, y2, y3, ba 60 (by decide) (by decide), ba 61 (by decide) (by decide), ba 62 (by decide) (by decide)]
      exact ⟨rfl, rfl, rfl⟩
    · have z := tbb.2.2.2.2.2.2.2.2.1
      rw [bi] at z
      rw [J 29 (by decide)]
      exact z
    · rw [AA 30 (by decide), tbb.2.2.2.2.2.2.2.2.2.1 j (by rw [bi]; exact hj), ba 30 (by decide) (by decide)]
    · have z := tbb.2.2.2.2.2.2.2.2.2.2.1
      rw [bi] at z
      rw [J 33 (by decide)]
      exact z
    · obtain ⟨y1, y2⟩ := tbb.2.2.2.2.2.2.2.2.2.2.2.1 j (by rw [bi]; exact hj)
      rw [AA 34 (by decide), AA 37 (by decide), y1, y2, ba 34 (by decide) (by decide), ba 37 (by decide) (by decide)]
      exact ⟨rfl, rfl⟩
    · have z := tbb.2.2.2.2.2.2.2.2.2.2.2.2.1
      rw [bi] at z
      rw [J 24 (by decide)]
      exact z
    · obtain ⟨y1, y2, y3⟩ := tbb.2.2.2.2.2.2.2.2.2.2.2.2.2 j (by rw [bi]; exact hj)
      rw [AA 25 (by decide), AA 27 (by decide), AA 28 (by decide), y1, y2, y3, ba 25 (by decide) (by decide), ba 27 (by decide) (by decide), ba 28 (by decide) (by decide)]
      exact ⟨rfl, rfl, rfl⟩
    · have z := cdk.1
      rw [bi] at z
      rw [J 20 (by decide)]
      exact z
    · rw [A22, cdk.2 j (by rw [bi]; exact hj), ba 22 (by decide) (by decide)]
    · -- the class
      rw [Ri 22 (by decide), Yi 22 (by decide) (by decide) (by decide) (by decide), a8, Si 22 (by decide)]
      exact S22
    · rw [Ri 36 (by decide)]
      exact Y36
    · rw [Ri 38 (by decide), Yi 38 (by decide) (by decide) (by decide) (by decide), j38, Si 38 (by decide)]
      exact S38
    · rw [Ri 50 (by decide)]
      exact Y50
    · rw [Ri 53 (by decide), Y53]
      exact Int32.toInt_inj.mp (by omega)
    · rw [Ri 56 (by decide)]
      exact Y56
    · show Y.r 51 j = _
      rw [Yr, cb1 j (by omega), rrow j (by omega)]
    · show Y.o y = _ ∧ Y.ol y = _
      have z1 := rro j y (by omega) hy
      have z2 := cb2 j y (by omega) (by rw [rrow j (by omega)]; exact hy)
      rw [Yo, Yol, z2.1, z2.2]
      exact z1
    · show Y.a 18 j = _
      rw [Ya18, cb5 j (by rw [r22]; exact hj), ra18]
    · rw [Ri 54 (by decide), Y54]
      omega
    · rw [Ri 55 (by decide), Y55, ← r55]
      exact cb7
    · show Y.a 52 j = _
      rw [Ya52, cb8 j (by rw [r55]; exact hj), ra52]
    · rw [Ri 55 (by decide), Y55] at h2
      show Y.a 52 j = 0 ∨ 2 * (S0.i 54).toInt + 1 < (Y.a 52 j).toInt ∧ (Y.a 52 j).toInt ≤ 2 * ((CS.setI Y 34 (A.2.i 34 - 1)).i 54).toInt + 1
      rw [Ri 54 (by decide), Ya52, Y54]
      rcases cb9 j (by rw [r55]; exact h1) h2 with z | z
      · exact Or.inl z
      · refine Or.inr ⟨by omega, jm.2.2.2.2.2.2.2.1 j h2 ⟨c, List.mem_cons_self, ?_⟩⟩
        rw [ec2, eo, ro14]
        exact h1
    · rw [Ri 21 (by decide), Ri 44 (by decide), Y21, k11u', u11, k110]
      rw [k11s] at cbr
      rw [k110] at r44
      rw [r21] at cbr
      omega
    · rw [Ri 54 (by decide), Ri 44 (by decide), Y54, k11u', u11, k110]
      rw [k11s] at cbr
      rw [k110] at r44
      omega
    · rw [Ri 55 (by decide), Ri 44 (by decide), Y55, k11u', u11, k110]
      rw [k11s] at cbr
      rw [k110] at r44
      rw [r55] at cbr
      omega
    · rw [u11]
      rw [bi] at x11
      omega
    · rw [phU]
      rw [phb] at xph
      omega
    · rw [u17, q17, v17]
      rw [bi] at x17
      omega
    · refine Int32.toInt_inj.mp ?_
      rw [U19, s19, v19, xsg, bi]
      show _ + (((1 : Nat) : Int) + 0) - 1 = _
      omega
  · -- no sign
    left
    have k10 : ¬ V0.i 10 = 125 := fun z => c125 (k125.mpr (by rw [← n7]; exact z))
    have u15 : ¬ U.i 15 = 0 := by
      refine u_flt g1 ?_
      by_cases z : V0.i 75 = 0
      · rw [if_pos z] at hV
        exact am_flt (U := U) n1.1.2.1 k10 hV
      · rw [if_neg z, if_neg k10] at hV
        exact am_flt (U := U) n1.1.2.1 k10 hV
    refine ⟨?_, u15⟩
    rcases k with ⟨z, -⟩ | ⟨⟨z, -⟩, -⟩ | ⟨⟨z, -⟩, -⟩ | ⟨-, -, k⟩ | ⟨⟨-, z⟩, -⟩ | ⟨-, ⟨q1, q2⟩, k⟩
    · exact absurd z no
    · exact absurd (h302.symm.trans z) (by decide)
    · exact absurd (h302.symm.trans z) (by decide)
    · unfold f_X7_endList at k
      obtain ⟨-, k⟩ := hf_ite k
      rw [if_neg (by rw [h302]; decide), if_pos h302] at k
      by_cases z : S.i 36 = 0
      · rw [if_pos z] at k
        exact e72_flt c125 k
      · rw [if_neg z] at k
        obtain ⟨p49, e49, k⟩ := hf_bind k
        refine e72_flt ?_ k
        unfold f_X7_notReached at e49
        by_cases y : 0 ≤ S.i 37
        · rw [if_pos y] at e49
          rw [← Option.some.inj e49]
          exact c125
        · rw [if_neg y] at e49
          rw [← Option.some.inj e49]
          show ¬ (CS.setI S 37 (S.i 44)).i 43 = 125
          rw [ci_ne _ _ _ (by decide)]
          exact c125
    · exact absurd (h302.symm.trans z) (by decide)
    · have tk' : S.i 43 = 219 ∨ S.i 43 = 220 := by
        rcases tk with z | z | z | z
        · exact absurd z q1
        · exact absurd z q2
        · exact Or.inl z
        · exact Or.inr z
      exact y_stF (x1 := 0) (Or.inl (Or.inr tk')) k
end
section
/-! both readers: an arm's block, and the two of expressions -/
theorem sx_armBlock {N : Nat} (hN : 1000 ≤ N) {E1 : CS → Option (Unit × CS)} {E2 : CS → Option (Int32 × CS)} (hm1 : ∀ σ, Kf (CS.i σ 32) (E1 σ)) (hm2 : ∀ σ, Kf (CS.i σ 32) (E2 σ)) (hE : SXR N 18 E1) (hE2 : SXN N 22 E2) : ABK N (f_X7_armBlock N E1 E2) := by
  intro d x S s V U n t R hv hG ht hk _ h3 e hV g
  unfold f_X7_armBlock at e
  obtain ⟨p1, e1, e⟩ := hf_bind e
  obtain ⟨p5, e5, e⟩ := hf_bind e
  have st := ab_start (x := x) hN hv hG ht hk h3 e1 e5 hV g
  cases ea : p5.1 with
  | none =>
    rw [ea] at e
    cases e
  | some a =>
    rw [ea] at e
    obtain ⟨-, e⟩ := hf_ite e
    obtain ⟨p12, e12, e⟩ := hf_bind e
    obtain ⟨-, e⟩ := hf_ite e
    obtain ⟨h036, e⟩ := hf_ite e
    have eR : R.2 = CS.setI (CS.setI p12.2 56 (CS.o p12.2 a 16)) 36 (S.i 36) := by rw [← Option.some.inj e]
    have R32 : R.2.i 32 = p12.2.i 32 := by rw [eR, ci_ne _ _ _ (by decide), ci_ne _ _ _ (by decide)]
    have e12' : f_X7_turns_2 N E1 E2 N (CS.setI (CS.setI (CS.setO (CS.setO p5.2 a 9 x) a 16 (p5.2.i 56)) 56 (S.i 53)) 36 1) (S.i 53) 0 = some p12 := e12
    rcases st with ⟨f1, f2⟩ | ⟨a', m, b, c, ea', hr, hY, hS⟩
    · have f5 : ¬ p5.2.i 32 = 0 := by
        rw [kF_X6_push N p1.2 _ _ _ p5 e5 f1]
        exact f1
      have w : ¬ (CS.setI (CS.setI (CS.setO (CS.setO p5.2 a 9 x) a 16 (p5.2.i 56)) 56 (S.i 53)) 36 1).i 32 = 0 := by
        rw [ci_ne _ _ _ (by decide), ci_ne _ _ _ (by decide)]
        exact f5
      have z := tn_stop e12' (Or.inl w)
      refine Or.inl ⟨?_, f2⟩
      rw [R32, z]
      exact w
    · have aa : a' = a := Option.some.inj (ea'.symm.trans ea)
      rw [aa] at hr hY hS
      have h53 := hr.1.1.1
      have hW := hr.1.2.1
      have u3 : U.i 3 = V.i 3 := (kln_f_X12_parse_10 N n V U g).2
      have v3 : V.i 3 = s.i 3 := by
        obtain ⟨q1, h1, h2⟩ := hf_bind hV
        rw [ob_id] at h2
        exact ((kln_f_X12_then N _ 6 1 V h2).2).trans ((kln_f_X12_open N s 123 q1 h1).2)
      have b3 : b.i 3 = s.i 3 := by rw [hr.2.2.2.1.1]
      have hU : KU3 U b := ⟨by rw [u3, v3, b3], by rw [u3, v3]; exact hv.2.2.2.2.2.1.2.2.2.1.1⟩
      have z := tn_loop hN hm1 hm2 hE hE2 hY ARB.mA hU (d := d) (B := CS.setI (CS.setI (CS.setO (CS.setO p5.2 a 9 x) a 16 (p5.2.i 56)) 56 (S.i 53)) 36 1) (b := b) (t0 := t + 1) (n0 := m) (x1 := S.i 53) (U := U) (Q := fun R' => ∃ (mm : Nat) (u : RS), f_X12_parse_10 N mm u = some U ∧ AXO d t S s (CS.setI (CS.setI R' 56 (R'.o a 16)) 36 (S.i 36)) u ∧ ABD x t U S s (CS.setI (CS.setI R' 56 (R'.o a 16)) 36 (S.i 36)) u) h53 hW (fun S' s' c' m' P hS' tk k g' => (ab_end hN hv hr h036 hS' tk k g').imp id (fun q => ⟨Or.inr q.1, q.2⟩)) N _ 0 p12 e12' (Or.inl ⟨n, V, c, [], g, hS⟩)
      rcases z with ⟨z1, z2⟩ | z
      · refine Or.inl ⟨?_, z2⟩
        rw [R32]
        exact z1
      · right
        rw [eR]
        exact z
/-- both readers of an expression and of a condition's piece, at each depth -/
theorem sx_EE {N : Nat} (hN : 1000 ≤ N) : ∀ d : Nat, SXR N 18 (fEE N d).1 ∧ SXN N 22 (fEE N d).2
  | 0 => by
    refine ⟨?_, ?_⟩
    · intro _ _ _ _ _ _ R _ _ _ _ _ e _
      have e' : (none : Option (Unit × CS)) = some R := e
      cases e'
    · intro _ _ _ _ _ _ R _ _ _ _ _ e _
      have e' : (none : Option (Int32 × CS)) = some R := e
      cases e'
  | d + 1 => by
    obtain ⟨h1, h2⟩ := sx_EE hN d
    obtain ⟨m1, m2⟩ := kFEE N d
    exact ⟨sx_factor hN m1 m2 h1 (sx_choice hN m1 m2 h1 (sx_armBlock hN m1 m2 h1 h2)), sx_one hN m1 m2 h1 h2⟩
end
section
/-! both readers: where a text begins -/
theorem c_add {N k : Nat} {σ : CS} {x : Int64} {y z : Int32} (h : (σ.i 50).toInt = (k : Int)) (hk : k < 100) : f_X4_add N σ x y z = some ((), CS.setI (CS.setA (CS.setA (CS.setB σ 47 k x) 48 k y) 49 k z) 50 (σ.i 50 + 1)) := by
  have en : (σ.i 50).toNatClampNeg = k := by
    show (σ.i 50).toInt.toNat = k
    rw [h]
    exact Int.toNat_natCast _
  have e128 : (128 : Int32).toInt = 128 := by decide
  unfold f_X4_add
  rw [if_neg (fun q => by
    have := le_int q
    rw [e128, h] at this
    omega), if_pos (show ib (σ.i 50) 128 from ⟨by omega, by omega⟩), en]
/-- the class before its first token -/
def CZ (σ Z : CS) : Prop := HSM σ Z ∧ (Z.a 0 = σ.a 0 ∧ Z.a 9 = σ.a 9 ∧ Z.i 13 = σ.i 13) ∧ (Z.i 21 = 0 ∧ Z.i 22 = 0 ∧ Z.i 24 = 0 ∧ Z.i 25 = 0 ∧ Z.i 26 = 0 ∧ Z.i 50 = 2) ∧ (Z.i 53 = 0 ∧ Z.i 54 = 0 ∧ Z.i 55 = 0 ∧ Z.i 56 = -1) ∧ (Z.i 32 = 0 ∧ Z.i 34 = 0 ∧ Z.i 36 = 1 ∧ Z.i 37 = -1 ∧ Z.i 38 = 0) ∧ (Z.b 47 0 = 97 ∧ Z.b 47 1 = 98 ∧ Z.a 49 0 = -1 ∧ Z.a 49 1 = -1)
/-- the class's cells and names there -/
def CZ2 (Z : CS) : Prop := Z.i 20 = 0 ∧ Z.i 23 = 2 ∧ Z.a 48 0 = 0 ∧ Z.a 48 1 = 1
/-- the reference's -/
def RZ2 (Y : RS) : Prop := Y.i 42 = 2 ∧ Y.i 52 = 0 ∧ Y.a 40 0 = 0 ∧ Y.a 40 1 = 1
set_option maxRecDepth 4000 in
theorem tr_open {N : Nat} {E1 : CS → Option (Unit × CS)} {E2 : CS → Option (Int32 × CS)} {σ : CS} {x1 : Int32} {T : Int32 × CS} (e : f_X7_translate N E1 E2 σ x1 = some T) : ∃ (Z : CS) (A : Unit × CS) (P : Option Nat × CS) (R : Unit × CS), CZ σ Z ∧ f_X9_start N Z x1 = some ((), A.2) ∧ f_X9_advance N (CS.setI (CS.setI Z 41 x1) 42 0) = some A ∧ f_X6_push N A.2 300 0 (A.2.i 50) = some P ∧ f_X7_turns_2 N E1 E2 N P.2 0 0 = some R ∧ (if (R.2.i 37) < 0 then f_X7_translate_139 N E1 E2 R.2 else (f_X1_fail N R.2 7 (R.2.i 37)).bind fun p49 => f_X7_translate_139 N E1 E2 p49.2) = some T ∧ CZ2 Z := by
  unfold f_X7_translate at e
  obtain ⟨p1, e1, e⟩ := hf_bind e
  obtain ⟨p5, e5, e⟩ := hf_bind e
  obtain ⟨p9, e9, e⟩ := hf_bind e
  obtain ⟨p13, e13, e⟩ := hf_bind e
  obtain ⟨p17, e17, e⟩ := hf_bind e
  obtain ⟨p21, e21, e⟩ := hf_bind e
  obtain ⟨p25, e25, e⟩ := hf_bind e
  obtain ⟨p29, e29, e⟩ := hf_bind e
  unfold f_X0_clear at e1
  have h1 := congrArg (fun o => o.map Prod.snd) e1
  have h1' : p1.2 = CS.setI (CS.setI (CS.setI (CS.setI (CS.setI (CS.setI (CS.setI (CS.setI σ 20 0) 21 0) 22 0) 23 0) 24 0) 25 0) 26 0) 27 0 := (Option.some.inj h1).symm
  unfold f_X0_newCells at e5 e13
  have q1 : ∀ j : Nat, j ≠ 20 → j ≠ 21 → j ≠ 22 → j ≠ 23 → j ≠ 24 → j ≠ 25 → j ≠ 26 → j ≠ 27 → p1.2.i j = σ.i j := fun j a1 a2 a3 a4 a5 a6 a7 a8 => by
    rw [h1', ci_ne _ _ _ a8, ci_ne _ _ _ a7, ci_ne _ _ _ a6, ci_ne _ _ _ a5, ci_ne _ _ _ a4, ci_ne _ _ _ a3, ci_ne _ _ _ a2, ci_ne _ _ _ a1]
  have q1z : p1.2.i 21 = 0 ∧ p1.2.i 22 = 0 ∧ p1.2.i 24 = 0 ∧ p1.2.i 25 = 0 ∧ p1.2.i 26 = 0 := by
    rw [h1']
    exact ⟨rfl, rfl, rfl, rfl, rfl⟩
  have q1h : HSM σ p1.2 ∧ p1.2.a = σ.a := by
    rw [h1']
    exact ⟨⟨⟨rfl, rfl, rfl, rfl, rfl, rfl, rfl, rfl⟩, rfl⟩, rfl⟩
  have q1c : p1.2.i 20 = 0 ∧ p1.2.i 23 = 0 := by
    rw [h1']
    exact ⟨rfl, rfl⟩
  clear h1 h1' e1
  have h5 : p5.2 = CS.setI (CS.setI p1.2 50 0) 23 ((CS.setI p1.2 50 0).i 23 + 1) := by rw [← Option.some.inj e5]
  have q5 : ∀ j : Nat, j ≠ 50 → j ≠ 23 → p5.2.i j = p1.2.i j := fun j a1 a2 => by rw [h5, ci_ne _ _ _ a2, ci_ne _ _ _ a1]
  have q5n : p5.2.i 50 = 0 := by rw [h5, ci_ne _ _ _ (by decide), ci_at]
  have q5h : HSM p1.2 p5.2 ∧ p5.2.a = p1.2.a := by
    rw [h5]
    exact ⟨⟨⟨rfl, rfl, rfl, rfl, rfl, rfl, rfl, rfl⟩, rfl⟩, rfl⟩
  have q5c : p5.2.i 23 = 1 ∧ p5.1 = 0 := by
    refine ⟨by rw [h5, ci_at, ci_ne _ _ _ (by decide), q1c.2]; decide, ?_⟩
    have z := congrArg Prod.fst (Option.some.inj e5)
    rw [← z]
    show (CS.setI p1.2 50 0).i 23 + 1 - 1 = 0
    rw [ci_ne _ _ _ (by decide), q1c.2]
    decide
  clear h5 e5
  rw [c_add (k := 0) (by rw [q5n]; decide) (by omega)] at e9
  have h9 : p9.2 = CS.setI (CS.setA (CS.setA (CS.setB p5.2 47 0 97) 48 0 p5.1) 49 0 (-1)) 50 (p5.2.i 50 + 1) := by rw [← Option.some.inj e9]
  have q9 : ∀ j : Nat, j ≠ 50 → p9.2.i j = p5.2.i j := fun j a1 => by
    rw [h9, ci_ne _ _ _ a1]
    rfl
  have q9n : p9.2.i 50 = 1 := by
    rw [h9, ci_at, q5n]
    decide
  have q9h : HSM p5.2 p9.2 ∧ (p9.2.a 0 = p5.2.a 0 ∧ p9.2.a 9 = p5.2.a 9) ∧ p9.2.b 47 0 = 97 ∧ p9.2.a 49 0 = -1 := by
    rw [h9]
    exact ⟨⟨⟨rfl, rfl, rfl, rfl, rfl, rfl, rfl, rfl⟩, rfl⟩, ⟨rfl, rfl⟩, rfl, rfl⟩
  have q9c : p9.2.a 48 0 = 0 := by
    rw [h9, ← q5c.2]
    rfl
  clear h9 e9
  have h13 : p13.2 = CS.setI p9.2 23 (p9.2.i 23 + 1) := by rw [← Option.some.inj e13]
  have q13 : ∀ j : Nat, j ≠ 23 → p13.2.i j = p9.2.i j := fun j a1 => by rw [h13, ci_ne _ _ _ a1]
  have q13h : HSM p9.2 p13.2 ∧ p13.2.a = p9.2.a ∧ p13.2.b = p9.2.b := by
    rw [h13]
    exact ⟨⟨⟨rfl, rfl, rfl, rfl, rfl, rfl, rfl, rfl⟩, rfl⟩, rfl, rfl⟩
  have q13c : p13.2.i 23 = 2 ∧ p13.1 = 1 := by
    refine ⟨by rw [h13, ci_at, q9 23 (by decide), q5c.1]; decide, ?_⟩
    have z := congrArg Prod.fst (Option.some.inj e13)
    rw [← z]
    show p9.2.i 23 + 1 - 1 = 1
    rw [q9 23 (by decide), q5c.1]
    decide
  clear h13 e13
  rw [c_add (k := 1) (by rw [q13 50 (by decide), q9n]; decide) (by omega)] at e17
  have h17 : p17.2 = CS.setI (CS.setA (CS.setA (CS.setB p13.2 47 1 98) 48 1 p13.1) 49 1 (-1)) 50 (p13.2.i 50 + 1) := by rw [← Option.some.inj e17]
  have q17 : ∀ j : Nat, j ≠ 50 → p17.2.i j = p13.2.i j := fun j a1 => by
    rw [h17, ci_ne _ _ _ a1]
    rfl
  have q17n : p17.2.i 50 = 2 := by
    rw [h17, ci_at, q13 50 (by decide), q9n]
    decide
  have q17h : HSM p13.2 p17.2 ∧ (p17.2.a 0 = p13.2.a 0 ∧ p17.2.a 9 = p13.2.a 9) ∧ (p17.2.b 47 0 = p13.2.b 47 0 ∧ p17.2.b 47 1 = 98) ∧ p17.2.a 49 0 = p13.2.a 49 0 ∧ p17.2.a 49 1 = -1 := by
    rw [h17]
    exact ⟨⟨⟨rfl, rfl, rfl, rfl, rfl, rfl, rfl, rfl⟩, rfl⟩, ⟨rfl, rfl⟩, ⟨rfl, rfl⟩, rfl, rfl⟩
  have q17c : p17.2.a 48 0 = p13.2.a 48 0 ∧ p17.2.a 48 1 = 1 := by
    rw [h17, ← q13c.2]
    exact ⟨rfl, rfl⟩
  clear h17 e17
  unfold f_X6_clear at e21
  have h21 : p21.2 = CS.setI (CS.setI (CS.setI (CS.setI p17.2 53 0) 54 0) 55 0) 56 (-1) := by rw [← Option.some.inj e21]
  rw [h21] at e25
  obtain ⟨Z, hZ⟩ : ∃ Z, Z = CS.setI (CS.setI (CS.setI (CS.setI (CS.setI (CS.setI (CS.setI (CS.setI (CS.setI (CS.setI p17.2 53 0) 54 0) 55 0) 56 (-1)) 32 0) 33 0) 34 0) 36 1) 37 (-1)) 38 0 := ⟨_, rfl⟩
  rw [← hZ] at e25
  have z : ∀ j : Nat, ¬ (53 ≤ j ∧ j ≤ 56) → ¬ (32 ≤ j ∧ j ≤ 38) → Z.i j = p17.2.i j := fun j a1 a2 => by
    rw [hZ, ci_ne _ _ _ (by omega), ci_ne _ _ _ (by omega), ci_ne _ _ _ (by omega), ci_ne _ _ _ (by omega), ci_ne _ _ _ (by omega), ci_ne _ _ _ (by omega), ci_ne _ _ _ (by omega), ci_ne _ _ _ (by omega), ci_ne _ _ _ (by omega), ci_ne _ _ _ (by omega)]
  have zv : (Z.i 53 = 0 ∧ Z.i 54 = 0 ∧ Z.i 55 = 0 ∧ Z.i 56 = -1) ∧ (Z.i 32 = 0 ∧ Z.i 34 = 0 ∧ Z.i 36 = 1 ∧ Z.i 37 = -1 ∧ Z.i 38 = 0) := by
    rw [hZ]
    exact ⟨⟨rfl, rfl, rfl, rfl⟩, rfl, rfl, rfl, rfl, rfl⟩
  have zh : HSM p17.2 Z ∧ Z.a = p17.2.a ∧ Z.b = p17.2.b := by
    rw [hZ]
    exact ⟨⟨⟨rfl, rfl, rfl, rfl, rfl, rfl, rfl, rfl⟩, rfl⟩, rfl, rfl⟩
  clear hZ h21 e21
  have e25' := e25
  unfold f_X9_start at e25
  obtain ⟨A, eA, e25⟩ := hf_bind e25
  have eq : p25 = ((), A.2) := (Option.some.inj e25).symm
  rw [eq] at e29 e25'
  have down : ∀ j : Nat, j ≠ 50 → j ≠ 23 → ¬ (53 ≤ j ∧ j ≤ 56) → ¬ (32 ≤ j ∧ j ≤ 38) → Z.i j = p1.2.i j := fun j a1 a2 a3 a4 => by
    rw [z j a3 a4, q17 j a1, q13 j a2, q9 j a1, q5 j a1 a2]
  have fin : f_X7_turns_2 N E1 E2 N p29.2 0 0 = none ∨ ∃ R, f_X7_turns_2 N E1 E2 N p29.2 0 0 = some R := by
    cases f_X7_turns_2 N E1 E2 N p29.2 0 0 with
    | none => exact Or.inl rfl
    | some R => exact Or.inr ⟨R, rfl⟩
  have e' : ((f_X7_turns N E1 E2 p29.2 0).bind fun p44 => (if (p44.2.i 37) < 0 then f_X7_translate_139 N E1 E2 p44.2 else (f_X1_fail N p44.2 7 (p44.2.i 37)).bind fun p49 => f_X7_translate_139 N E1 E2 p49.2)) = some T := by
    cases ha : p29.1 with
    | none =>
      rw [ha] at e
      exact e
    | some a =>
      rw [ha] at e
      exact e
  obtain ⟨R, eR, e'⟩ := hf_bind e'
  refine ⟨Z, A, p29, R, ⟨((((q1h.1.tr q5h.1).tr q9h.1).tr q13h.1).tr q17h.1).tr zh.1, ⟨?_, ?_, ?_⟩, ⟨?_, ?_, ?_, ?_, ?_, ?_⟩, zv.1, zv.2, ?_, ?_, ?_, ?_⟩, e25', eA, e29, eR, e', ?_, ?_, ?_, ?_⟩
  · rw [zh.2.1, q17h.2.1.1, q13h.2.1, q9h.2.1.1, q5h.2, q1h.2]
  · rw [zh.2.1, q17h.2.1.2, q13h.2.1, q9h.2.1.2, q5h.2, q1h.2]
  · rw [down 13 (by decide) (by decide) (by omega) (by omega), q1 13 (by decide) (by decide) (by decide) (by decide) (by decide) (by decide) (by decide) (by decide)]
  · rw [down 21 (by decide) (by decide) (by omega) (by omega)]
    exact q1z.1
  · rw [down 22 (by decide) (by decide) (by omega) (by omega)]
    exact q1z.2.1
  · rw [down 24 (by decide) (by decide) (by omega) (by omega)]
    exact q1z.2.2.1
  · rw [down 25 (by decide) (by decide) (by omega) (by omega)]
    exact q1z.2.2.2.1
  · rw [down 26 (by decide) (by decide) (by omega) (by omega)]
    exact q1z.2.2.2.2
  · rw [z 50 (by omega) (by omega)]
    exact q17n
  · rw [zh.2.2, q17h.2.2.1.1, q13h.2.2]
    exact q9h.2.2.1
  · rw [zh.2.2]
    exact q17h.2.2.1.2
  · rw [zh.2.1, q17h.2.2.2.1, q13h.2.1]
    exact q9h.2.2.2
  · rw [zh.2.1]
    exact q17h.2.2.2.2
  · rw [down 20 (by decide) (by decide) (by omega) (by omega)]
    exact q1c.1
  · rw [z 23 (by omega) (by omega), q17 23 (by decide)]
    exact q13c.1
  · rw [zh.2.1, q17c.1, q13h.2.1]
    exact q9c
  · rw [zh.2.1]
    exact q17c.2
/-- the reference before its first token -/
def RZB (r Y : RS) : Prop := (Y.i 2 = r.i 2 ∧ Y.i 3 = r.i 3 ∧ Y.i 8 = r.i 8 ∧ Y.a 1 = r.a 1 ∧ Y.a 4 = r.a 4 ∧ Y.b 9 = r.b 9) ∧ (Y.i 38 = 2 ∧ Y.i 43 = 0 ∧ Y.i 19 = 0 ∧ Y.i 53 = 0 ∧ Y.i 54 = 0 ∧ Y.i 55 = 0) ∧ (Y.i 20 = 0 ∧ Y.i 24 = 0 ∧ Y.i 29 = 0 ∧ Y.i 33 = 0 ∧ Y.i 56 = 0 ∧ Y.i 59 = 0) ∧ (Y.i 12 = 0 ∧ Y.i 15 = 0 ∧ Y.i 18 = -1 ∧ Y.i 17 = 0) ∧ (Y.b 39 0 = 97 ∧ Y.b 39 1 = 98 ∧ Y.a 41 0 = 0 ∧ Y.a 41 1 = 0)
theorem r_see {N k : Nat} {σ : RS} {x : Int64} {V : Int32 × RS} (h : (σ.i 38).toInt = (k : Int)) (e : f_X12_see N σ x 0 = some V) : V.2 = RS.setI (RS.setI (RS.setA (RS.setA (RS.setB σ 39 k x) 40 k (σ.i 42)) 41 k 0) 38 (σ.i 38 + 1)) 42 (σ.i 42 + 1) := by
  have en : (σ.i 38).toNatClampNeg = k := by
    show (σ.i 38).toInt.toNat = k
    rw [h]
    exact Int.toNat_natCast _
  unfold f_X12_see at e
  obtain ⟨-, e⟩ := hf_ite e
  rw [en] at e
  rw [← Option.some.inj e]
  rfl
set_option maxRecDepth 4000 in
theorem rd_open {N : Nat} {r : RS} {U : Int32 × RS} (g : f_X12_read N r = some U) : ∃ Y q V p7 : RS, RZB r Y ∧ f_X12_next N Y = some q ∧ f_X12_push N (RS.setI q 63 (-1)) 1 = some V ∧ f_X12_parse_10 N N V = some p7 ∧ (if (p7.i 10) = 0 then (f_X12_can N p7 1).bind fun p19 => f_X12_read_138 N p19.2 else (f_X12_can N p7 0).bind fun p10 => f_X12_read_138 N p10.2) = some U ∧ RZ2 Y := by
  unfold f_X12_read at g
  obtain ⟨X, hX⟩ : ∃ X, X = RS.setI (RS.setI (RS.setI (RS.setI (RS.setI (RS.setI (RS.setI (RS.setI (RS.setI (RS.setI (RS.setI (RS.setI (RS.setI (RS.setI (RS.setI (RS.setI (RS.setI (RS.setI (RS.setI r 0 0) 38 0) 42 0) 43 0) 19 0) 53 0) 54 0) 55 0) 20 0) 24 0) 29 0) 33 0) 56 0) 59 0) 52 0) 12 0) 15 0) 18 (-1)) 17 0 := ⟨_, rfl⟩
  rw [← hX] at g
  have x0 : (X.i 2 = r.i 2 ∧ X.i 3 = r.i 3 ∧ X.i 8 = r.i 8 ∧ X.a 1 = r.a 1 ∧ X.a 4 = r.a 4 ∧ X.b 9 = r.b 9) ∧ (X.i 38 = 0 ∧ X.i 43 = 0 ∧ X.i 19 = 0 ∧ X.i 53 = 0 ∧ X.i 54 = 0 ∧ X.i 55 = 0) ∧ (X.i 20 = 0 ∧ X.i 24 = 0 ∧ X.i 29 = 0 ∧ X.i 33 = 0 ∧ X.i 56 = 0 ∧ X.i 59 = 0) ∧ (X.i 12 = 0 ∧ X.i 15 = 0 ∧ X.i 18 = -1 ∧ X.i 17 = 0) := by
    rw [hX]
    exact ⟨⟨rfl, rfl, rfl, rfl, rfl, rfl⟩, ⟨rfl, rfl, rfl, rfl, rfl, rfl⟩, ⟨rfl, rfl, rfl, rfl, rfl, rfl⟩, rfl, rfl, rfl, rfl⟩
  have x4 : X.i 42 = 0 ∧ X.i 52 = 0 := by
    rw [hX]
    exact ⟨rfl, rfl⟩
  clear hX
  obtain ⟨p1, g1, g⟩ := hf_bind g
  obtain ⟨p3, g3, g⟩ := hf_bind g
  obtain ⟨q, gq, g⟩ := hf_bind g
  obtain ⟨p7, g7, g⟩ := hf_bind g
  unfold f_X12_parse at g7
  obtain ⟨V, gV, g7⟩ := hf_bind g7
  obtain ⟨xa, xb, xc, xd⟩ := x0
  have y1 := r_see (k := 0) (by rw [xb.1]; decide) g1
  have i1 : ∀ j : Nat, j ≠ 38 → j ≠ 42 → p1.2.i j = X.i j := fun j a1 a2 => by
    rw [y1, ri_ne a2, ri_ne a1]
    rfl
  have n1 : p1.2.i 38 = 1 := by
    rw [y1, ri_ne (by decide), ri_at, xb.1]
    decide
  have t1 : (p1.2.a 1 = X.a 1 ∧ p1.2.a 4 = X.a 4 ∧ p1.2.b 9 = X.b 9) ∧ p1.2.b 39 0 = 97 ∧ p1.2.a 41 0 = 0 := by
    rw [y1]
    exact ⟨⟨rfl, rfl, rfl⟩, rfl, rfl⟩
  have t4 : p1.2.a 40 0 = 0 ∧ p1.2.i 42 = 1 := by
    rw [y1]
    exact ⟨x4.1, by rw [ri_at, x4.1]; decide⟩
  clear y1
  have y3 := r_see (k := 1) (by rw [n1]; decide) g3
  have i3 : ∀ j : Nat, j ≠ 38 → j ≠ 42 → p3.2.i j = p1.2.i j := fun j a1 a2 => by
    rw [y3, ri_ne a2, ri_ne a1]
    rfl
  have n3 : p3.2.i 38 = 2 := by
    rw [y3, ri_ne (by decide), ri_at, n1]
    decide
  have t3 : (p3.2.a 1 = p1.2.a 1 ∧ p3.2.a 4 = p1.2.a 4 ∧ p3.2.b 9 = p1.2.b 9) ∧ (p3.2.b 39 0 = p1.2.b 39 0 ∧ p3.2.b 39 1 = 98) ∧ p3.2.a 41 0 = p1.2.a 41 0 ∧ p3.2.a 41 1 = 0 := by
    rw [y3]
    exact ⟨⟨rfl, rfl, rfl⟩, ⟨rfl, rfl⟩, rfl, rfl⟩
  have t5 : p3.2.a 40 0 = p1.2.a 40 0 ∧ p3.2.a 40 1 = 1 ∧ p3.2.i 42 = 2 := by
    rw [y3]
    exact ⟨rfl, t4.2, by rw [ri_at, t4.2]; decide⟩
  clear y3
  have I : ∀ j : Nat, j ≠ 38 → j ≠ 42 → p3.2.i j = X.i j := fun j a1 a2 => (i3 j a1 a2).trans (i1 j a1 a2)
  refine ⟨p3.2, q, V, p7, ⟨⟨?_, ?_, ?_, ?_, ?_, ?_⟩, ⟨n3, ?_, ?_, ?_, ?_, ?_⟩, ⟨?_, ?_, ?_, ?_, ?_, ?_⟩, ⟨?_, ?_, ?_, ?_⟩, ⟨?_, t3.2.1.2, ?_, t3.2.2.2⟩⟩, gq, gV, g7, g, t5.2.2, by rw [I 52 (by decide) (by decide)]; exact x4.2, by rw [t5.1]; exact t4.1, t5.2.1⟩
  · rw [I 2 (by decide) (by decide)]; exact xa.1
  · rw [I 3 (by decide) (by decide)]; exact xa.2.1
  · rw [I 8 (by decide) (by decide)]; exact xa.2.2.1
  · rw [t3.1.1, t1.1.1]; exact xa.2.2.2.1
  · rw [t3.1.2.1, t1.1.2.1]; exact xa.2.2.2.2.1
  · rw [t3.1.2.2, t1.1.2.2]; exact xa.2.2.2.2.2
  · rw [I 43 (by decide) (by decide)]; exact xb.2.1
  · rw [I 19 (by decide) (by decide)]; exact xb.2.2.1
  · rw [I 53 (by decide) (by decide)]; exact xb.2.2.2.1
  · rw [I 54 (by decide) (by decide)]; exact xb.2.2.2.2.1
  · rw [I 55 (by decide) (by decide)]; exact xb.2.2.2.2.2
  · rw [I 20 (by decide) (by decide)]; exact xc.1
  · rw [I 24 (by decide) (by decide)]; exact xc.2.1
  · rw [I 29 (by decide) (by decide)]; exact xc.2.2.1
  · rw [I 33 (by decide) (by decide)]; exact xc.2.2.2.1
  · rw [I 56 (by decide) (by decide)]; exact xc.2.2.2.2.1
  · rw [I 59 (by decide) (by decide)]; exact xc.2.2.2.2.2
  · rw [I 12 (by decide) (by decide)]; exact xd.1
  · rw [I 15 (by decide) (by decide)]; exact xd.2.1
  · rw [I 18 (by decide) (by decide)]; exact xd.2.2.1
  · rw [I 17 (by decide) (by decide)]; exact xd.2.2.2
  · rw [t3.2.1.1]; exact t1.2.1
  · rw [t3.2.2.1]; exact t1.2.2
end
section
/-! both readers: the whole text is one row -/
theorem zRW_wl : (4294967296 ≤ (zRW 8).toInt ∧ 4294967296 ≤ (zRW 9).toInt ∧ 4294967296 ≤ (zRW 17).toInt) ∧ 65536 ≤ (zRW 0).toInt ∧ 65536 ≤ (zRW 1).toInt := by decide +kernel
/-- what stands side by side before a text is read -/
def TXB (σ : CS) (r : RS) : Prop := TLD σ r ∧ (∀ k : Nat, (k : Int) < (r.i 2).toInt → σ.a 0 k = r.a 1 k) ∧ (∀ k : Nat, k < 25 → σ.b 40 k = zRW k) ∧ (∀ k : Nat, k < 25 → r.b 9 k = zRW k)
/-- the first token -/
theorem rt_bt {N : Nat} (hN : 1000 ≤ N) {Z : CS} {A : Unit × CS} {Y q : RS} {x1 : Int32} (h32 : Z.i 32 = 0) (h15 : Y.i 15 = 0) (h3 : TPR (CS.setI (CS.setI Z 41 x1) 42 0) Y) (hP : POS (CS.setI (CS.setI Z 41 x1) 42 0) Y) (h6 : WDS Y) (h8 : WDC Z) (hx : 0 ≤ x1.toInt ∧ x1.toInt ≤ 900) (es : f_X9_start N Z x1 = some ((), A.2)) (e : f_X9_advance N (CS.setI (CS.setI Z 41 x1) 42 0) = some A) (g : f_X12_next N Y = some q) : BT A.2 q ∧ TKC (CS.setI Z 41 x1) A.2 ∧ TU (RS.setI Y 17 (Y.i 17 + 1)) q ∧ (Y.i 12).toInt ≤ (q.i 11).toInt := by
  have e900 : (900 : Int32).toInt = 900 := by decide
  have hk := y_next h3 hP h6 h15 e g
  obtain ⟨tk, lc⟩ := ok_at (q_start hN h8 x1 hx) es
  have b := ok_at (p_next hN Y (by rw [Int32.le_iff_toInt_le, z_t0]; exact hP.2.1) (by rw [Int32.le_iff_toInt_le]; exact hP.2.2) (by rw [Int32.le_iff_toInt_le, e900]; exact h3.2.1.2) h6.wd) g
  rcases b with ⟨b, -⟩ | ⟨-, b, b9⟩
  · exact absurd h15 b
  obtain ⟨u1, u2, u3, u4, -⟩ := b
  have tk' : TKC (CS.setI Z 41 x1) A.2 := tk
  have tki : ∀ j : Nat, j ≠ 41 → j ≠ 42 → j ≠ 43 → j ≠ 44 → j ≠ 45 → A.2.i j = Z.i j := fun j a0 a1 a2 a3 a4 => by rw [tk'.2 j a1 a2 a3 a4, ci_ne _ _ _ a0]
  have e41 : A.2.i 41 = x1 := by rw [tk'.2 41 (by decide) (by decide) (by decide) (by decide), ci_at]
  have eb : A.2.b = Z.b := tk'.1.2.2.2.2.2.2.2.2.2.1
  have ea : A.2.a = Z.a := tk'.1.2.2.2.2.2.2.2.2.2.2
  obtain ⟨t1, t2, t3, t4⟩ := h3
  have q2 : q.i 2 = Y.i 2 := u1.1 2 (by decide) (by decide) (by decide) (by decide)
  have qa : q.a = Y.a := u1.2.1
  have qb : q.b = Y.b := u1.2.2
  refine ⟨⟨?_, ?_, ⟨?_, ?_, fun k hk => ?_, fun k hk => ?_⟩, hk, ⟨?_, ?_⟩, fun k hk => ?_, lc, ?_⟩, tk', u1, le_int b9⟩
  · rw [tki 32 (by decide) (by decide) (by decide) (by decide) (by decide)]; exact h32
  · rw [u1.1 15 (by decide) (by decide) (by decide) (by decide)]; exact h15
  · rw [e41, q2]
    exact t1
  · rw [q2]
    exact t2
  · rw [q2] at hk
    rw [ea, qa]
    exact t3 k hk
  · rw [eb, qb]
    exact t4 k hk
  · have w1 := le_int u2
    have w2 := le_int u3
    rw [z_t0] at w1
    omega
  · exact le_int u4
  · rw [qb]
    exact h6 k hk
  · unfold WDC at *
    rw [eb]
    exact h8
/-- what stands when the first token is read -/
theorem rt_env {N : Nat} (hN : 1000 ≤ N) {h0 : Nat} {σ : CS} {r : RS} (hc : CIV h0 σ) (hr : RB r) (ht : TXB σ r) {Z : CS} {A : Unit × CS} {Y q : RS} (cz : CZ (CS.setI (CS.setI σ 5 0) 8 0) Z) (es : f_X9_start N Z (σ.i 5) = some ((), A.2)) (eA : f_X9_advance N (CS.setI (CS.setI Z 41 (σ.i 5)) 42 0) = some A) (rz : RZB r Y) (gq : f_X12_next N Y = some q) : ENV 0 A.2 q ∧ TKC (CS.setI Z 41 (σ.i 5)) A.2 ∧ TU (RS.setI Y 17 (Y.i 17 + 1)) q := by
  obtain ⟨hs, ⟨ca0, ca9, c13⟩, ⟨c21, c22, c24, c25, c26, c50⟩, ⟨c53, c54, c55, c56⟩, ⟨c32, c34, c36, c37, c38⟩, ⟨b0, b1, n0, n1⟩⟩ := cz
  obtain ⟨⟨r2, r3, r8, ra1, ra4, rb9⟩, ⟨r38, r43, r19, r53, r54, r55⟩, ⟨r20, r24, r29, r33, r56, r59⟩, ⟨r12, r15, r18, r17⟩, ⟨rb0, rb1, rn0, rn1⟩⟩ := rz
  obtain ⟨⟨t5, t13, t14, t90, t9⟩, tx, tb, tw⟩ := ht
  have e900 : (900 : Int32).toInt = 900 := by decide
  have e4 : (4 : Int32).toInt = 4 := by decide
  have e12 : (12 : Int32).toInt = 12 := by decide
  have m1 : (-1 : Int32).toInt = -1 := by decide
  have h2 := hr.1
  have h2a := le_int h2.1
  have h2b := le_int h2.2
  rw [z_t0] at h2a
  rw [e900] at h2b
  have hsA : HSM σ Z := hs
  have zb : ∀ k : Nat, k < 25 → Z.b 40 k = zRW k := fun k hk => by
    rw [hsA.2]
    exact tb k hk
  have wdZ : WDC Z := hsA.wd hc.2.2.1
  have h3 : TPR (CS.setI (CS.setI Z 41 (σ.i 5)) 42 0) Y := by
    refine ⟨?_, ?_, fun k hk => ?_, fun k hk => ?_⟩
    · rw [ci_ne _ _ _ (by decide), ci_at, r2]
      exact t5
    · rw [r2]
      exact ⟨h2a, h2b⟩
    · rw [r2] at hk
      rw [ra1]
      exact (congrFun ca0 k).trans (tx k hk)
    · rw [rb9, tw k hk]
      exact zb k hk
  have hP : POS (CS.setI (CS.setI Z 41 (σ.i 5)) 42 0) Y := by
    refine ⟨?_, ?_, ?_⟩
    · rw [ci_at, r12]
    · rw [r12, z_t0]
      exact Int.le_refl _
    · rw [r12, z_t0, r2]
      exact h2a
  have hw : WDS Y := fun k hk => by rw [rb9]; exact tw k hk
  have hx : 0 ≤ (σ.i 5).toInt ∧ (σ.i 5).toInt ≤ 900 := by
    rw [t5]
    exact ⟨h2a, h2b⟩
  obtain ⟨bt, tk, tu, b9⟩ := rt_bt hN c32 r15 h3 hP hw wdZ hx es eA gq
  rw [r12, z_t0] at b9
  have Ai : ∀ j : Nat, j ≠ 41 → j ≠ 42 → j ≠ 43 → j ≠ 44 → j ≠ 45 → A.2.i j = Z.i j := fun j a0 a1 a2 a3 a4 => by rw [tk.2 j a1 a2 a3 a4, ci_ne _ _ _ a0]
  have Ab : A.2.b = Z.b := tk.1.2.2.2.2.2.2.2.2.2.1
  have Aa : A.2.a = Z.a := tk.1.2.2.2.2.2.2.2.2.2.2
  have qi : ∀ j : Nat, j ≠ 10 → j ≠ 11 → j ≠ 12 → j ≠ 14 → j ≠ 17 → q.i j = Y.i j := fun j a1 a2 a3 a4 a5 => by rw [tu.1 j a1 a2 a3 a4, ri_ne a5]
  have q17 : q.i 17 = 1 := by
    rw [tu.1 17 (by decide) (by decide) (by decide) (by decide), ri_at, r17]
    decide
  have qa : q.a = Y.a := tu.2.1
  have qb : q.b = Y.b := tu.2.2
  have e1 : (1 : Int32).toInt = 1 := by decide
  have e2 : (2 : Int32).toInt = 2 := by decide
  have q20 : (q.i 20).toInt = 0 := by rw [qi 20 (by decide) (by decide) (by decide) (by decide) (by decide), r20]; exact z_t0
  have q38 : q.i 38 = 2 := by rw [qi 38 (by decide) (by decide) (by decide) (by decide) (by decide)]; exact r38
  have ph : phI q = 3 := by
    unfold phI
    rw [q17, q20, e1]
    rfl
  have hsmA : HSM σ A.2 := by
    obtain ⟨⟨d1, d2, d3, d4, d5, d6, d7, d8⟩, d9⟩ := hsA
    obtain ⟨⟨f1, f2, f3, f4, f5, f6, f7, f8, f9, f10, f11⟩, -⟩ := tk
    exact ⟨⟨f1.trans d1, f2.trans d2, f3.trans d3, f4.trans d4, f5.trans d5, f6.trans d6, f8.trans d7, f9.trans d8⟩, (congrFun f10 40).trans d9⟩
  have rf := hsmA.refs hc.1
  have A53 : A.2.i 53 = 0 := by rw [Ai 53 (by decide) (by decide) (by decide) (by decide) (by decide)]; exact c53
  have cn : (cnI A.2).toNat = 0 := by
    unfold cnI
    rw [A53, z_t0]
    rfl
  have lc := bt.2.2.2.2.2.2.1
  have ege := eI.ge A.2
  have k44 := lc.2.1.1
  have ri : RWI A.2 := by
    refine ⟨rf.2.1, rf.2.2.1, rf.1, ⟨?_, ?_⟩, ?_, ?_, ?_⟩
    · unfold cnI
      rw [A53, z_t0]
      exact Int.le_refl _
    · rw [cn]
      intro i hi
      omega
    · rw [cn]
      intro m hm
      have em : m = 0 := by omega
      rw [em]
      have := (cnt.le (KLS A.2 0) 26).1
      show (3 : Int) * ((0 : Nat) : Int) ≤ 0 + 3 * 0 + 20 * 0 + cnt (KLS A.2 0) 26 + 3
      omega
    · rw [cn]
      show (0 : Int) ≤ eI A.2
      unfold plI at ege
      omega
    · rw [cn]
      show (0 : Int) ≤ sgI A.2
      unfold sgI
      rw [Ai 34 (by decide) (by decide) (by decide) (by decide) (by decide), c34, z_t0]
      exact Int.le_refl _
  refine ⟨⟨bt, ⟨?_, ⟨?_, ?_⟩, fun k hk => ?_, fun j k hj hk => ?_⟩, ⟨?_, ?_, ?_⟩, ⟨?_, ?_, ?_⟩, ?_, ⟨?_, ?_, fun k k0 k1 => ?_, ⟨?_, ?_⟩, fun k k0 k1 => ?_⟩, ⟨?_, ?_, ?_, ?_, ?_, ?_, ?_, ri, ⟨?_, ?_, ?_, ?_, ?_, ?_⟩, ⟨⟨?_, ?_, ?_, ?_⟩, fun j hj => ?_⟩, ?_, ?_⟩⟩, tk, tu⟩
  · rw [Ai 50 (by decide) (by decide) (by decide) (by decide) (by decide), c50, q38]
  · rw [q38, e2]
    exact Int.le_refl _
  · rw [q38, e2]
    omega
  · rw [q38, e2] at hk
    rw [Ab, Aa, qb, qa]
    by_cases z : k = 0
    · rw [z, b0, n0, rb0, rn0, m1]
      exact ⟨rfl, fun w => absurd w (by decide), fun w => absurd rfl w⟩
    · have z1 : k = 1 := by omega
      rw [z1, b1, n1, rb1, rn1, m1]
      exact ⟨rfl, fun w => absurd w (by decide), fun w => absurd rfl w⟩
  · rw [q38, e2] at hk
    have z0 : j = 0 := by omega
    have z1 : k = 1 := by omega
    rw [qb, z0, z1, rb0, rb1]
    decide
  · rw [Ai 34 (by decide) (by decide) (by decide) (by decide) (by decide), c34, qi 19 (by decide) (by decide) (by decide) (by decide) (by decide), r19]
  · rw [qi 19 (by decide) (by decide) (by decide) (by decide) (by decide), r19, z_t0]
    exact Int.le_refl _
  · rw [qi 19 (by decide) (by decide) (by decide) (by decide) (by decide), r19, z_t0]
    omega
  · rw [Ai 24 (by decide) (by decide) (by decide) (by decide) (by decide), c24, qi 53 (by decide) (by decide) (by decide) (by decide) (by decide), r53]
  · rw [Ai 26 (by decide) (by decide) (by decide) (by decide) (by decide), c26, qi 55 (by decide) (by decide) (by decide) (by decide) (by decide), r55]
  · rw [Ai 25 (by decide) (by decide) (by decide) (by decide) (by decide), c25, qi 54 (by decide) (by decide) (by decide) (by decide) (by decide), r54]
    decide
  · unfold LTE
    rw [Ai 37 (by decide) (by decide) (by decide) (by decide) (by decide), c37, qi 18 (by decide) (by decide) (by decide) (by decide) (by decide), r18]
  · rw [Ai 13 (by decide) (by decide) (by decide) (by decide) (by decide), c13, qi 3 (by decide) (by decide) (by decide) (by decide) (by decide), r3]
    exact t13
  · rw [Aa, ca9]
    exact t90
  · rw [qi 3 (by decide) (by decide) (by decide) (by decide) (by decide), r3] at k1
    rw [Aa, ca9, qa, ra4]
    exact t9 k k0 k1
  · have := le_int hr.2.1.1
    rw [qi 3 (by decide) (by decide) (by decide) (by decide) (by decide), r3]
    omega
  · have := le_int hr.2.1.2
    rw [qi 3 (by decide) (by decide) (by decide) (by decide) (by decide), r3]
    omega
  · rw [qi 3 (by decide) (by decide) (by decide) (by decide) (by decide), r3] at k1
    rw [qa, ra4]
    exact hr.2.2.1 k k0 k1
  · omega
  · omega
  · rw [q17, e1]
    omega
  · rw [Ai 22 (by decide) (by decide) (by decide) (by decide) (by decide), c22, z_t0]
    exact Int.le_refl _
  · rw [Ai 22 (by decide) (by decide) (by decide) (by decide) (by decide), c22, z_t0]
    omega
  · rw [Ai 21 (by decide) (by decide) (by decide) (by decide) (by decide), c21, z_t0]
    exact Int.le_refl _
  · rw [Ai 21 (by decide) (by decide) (by decide) (by decide) (by decide), c21, z_t0]
    omega
  · rw [Ai 54 (by decide) (by decide) (by decide) (by decide) (by decide), c54, z_t0]
    exact Int.le_refl _
  · rw [Ai 54 (by decide) (by decide) (by decide) (by decide) (by decide), c54, z_t0]
    omega
  · rw [Ai 55 (by decide) (by decide) (by decide) (by decide) (by decide), c55, z_t0]
    exact Int.le_refl _
  · rw [Ai 55 (by decide) (by decide) (by decide) (by decide) (by decide), c55, z_t0]
    omega
  · rw [Ai 38 (by decide) (by decide) (by decide) (by decide) (by decide), c38, z_t0]
    exact Int.le_refl _
  · rw [Ai 38 (by decide) (by decide) (by decide) (by decide) (by decide), c38, Ai 54 (by decide) (by decide) (by decide) (by decide) (by decide), c54]
    exact Int.le_refl _
  · rw [qi 43 (by decide) (by decide) (by decide) (by decide) (by decide), r43, z_t0]
    exact Int.le_refl _
  · rw [qi 56 (by decide) (by decide) (by decide) (by decide) (by decide), r56, z_t0]
    exact Int.le_refl _
  · intro z
    rw [qi 56 (by decide) (by decide) (by decide) (by decide) (by decide), r56, z_t0] at z
    omega
  · rw [qi 29 (by decide) (by decide) (by decide) (by decide) (by decide), r29, z_t0]
    exact Int.le_refl _
  · rw [qi 59 (by decide) (by decide) (by decide) (by decide) (by decide), r59, z_t0] at hj
    omega
  · refine l5_2 hN N (CS.setI (CS.setI Z 41 (σ.i 5)) 42 0) 0 A ?_ ?_ wdZ ?_ eA
    · rw [ci_at, z_t0]
      exact Int.le_refl _
    · rw [ci_ne _ _ _ (by decide), ci_at]
      exact hx
    · unfold WL5
      show (4294967296 ≤ (Z.b 40 8).toInt ∧ 4294967296 ≤ (Z.b 40 9).toInt ∧ 4294967296 ≤ (Z.b 40 17).toInt) ∧ 65536 ≤ (Z.b 40 0).toInt ∧ 65536 ≤ (Z.b 40 1).toInt
      rw [zb 8 (by decide), zb 9 (by decide), zb 17 (by decide), zb 0 (by decide), zb 1 (by decide)]
      exact zRW_wl
  · unfold WL5
    rw [Ab, zb 8 (by decide), zb 9 (by decide), zb 17 (by decide), zb 0 (by decide), zb 1 (by decide)]
    exact zRW_wl
end
section
/-! both readers: before the first turn -/
/-- what the base of a whole text gives -/
def RSB (W : CS) (b : RS) : Prop := CRQB W ∧ SLO b ∧ -1 ≤ (b.i 11).toInt ∧ (pcC W = 0 ∧ pcR b = 0) ∧ ((W.i 23).toInt = 2 ∧ (b.i 42).toInt = 2) ∧ ∀ nm : Nat → Nat → Prop, nm 0 0 → nm 1 1 → NMG nm [] W b
set_option maxHeartbeats 4000000 in
theorem rt_start {N : Nat} (hN : 1000 ≤ N) {h0 : Nat} {σ : CS} {r : RS} (hc : CIV h0 σ) (hr : RB r) (ht : TXB σ r) {Z : CS} {A : Unit × CS} {P : Option Nat × CS} {Y q V : RS} (cz : CZ (CS.setI (CS.setI σ 5 0) 8 0) Z) (es : f_X9_start N Z (σ.i 5) = some ((), A.2)) (eA : f_X9_advance N (CS.setI (CS.setI Z 41 (σ.i 5)) 42 0) = some A) (eP : f_X6_push N A.2 300 0 (A.2.i 50) = some P) (rz : RZB r Y) (gq : f_X12_next N Y = some q) (gV : f_X12_push N (RS.setI q 63 (-1)) 1 = some V) (cz2 : CZ2 Z) (rz2 : RZ2 Y) : ∃ (b : RS) (c : CEL), (∀ U : RS, STI RBA U 0 P.2 b 0 P.2 V c []) ∧ ((∀ k : Nat, k ≠ 11 → b.i k = V.i k) ∧ RSB P.2 b) ∧ (P.2.i 53).toInt = 1 ∧ (P.2.i 56).toInt = -1 := by
  obtain ⟨P1, W⟩ := P
  show ∃ (b : RS) (c : CEL), (∀ U : RS, STI RBA U 0 W b 0 W V c []) ∧ ((∀ k : Nat, k ≠ 11 → b.i k = V.i k) ∧ RSB W b) ∧ (W.i 53).toInt = 1 ∧ (W.i 56).toInt = -1
  obtain ⟨evA, tk, tu⟩ := rt_env hN hc hr ht cz es eA rz gq
  obtain ⟨-, -, ⟨c21, c22, -, -, -, c50⟩, ⟨c53, c54, c55, c56⟩, ⟨-, c34, c36, -, c38⟩, ⟨-, -, cn0, cn1⟩⟩ := cz
  obtain ⟨-, ⟨r38, r43, r19, -, -, -⟩, ⟨r20, r24, r29, r33, r56, r59⟩, ⟨-, -, -, r17⟩, -⟩ := rz
  have m1 : (-1 : Int32).toInt = -1 := by decide
  have e1 : (1 : Int32).toInt = 1 := by decide
  have e2 : (2 : Int32).toInt = 2 := by decide
  have Ai : ∀ j : Nat, j ≠ 41 → j ≠ 42 → j ≠ 43 → j ≠ 44 → j ≠ 45 → A.2.i j = Z.i j := fun j a0 a1 a2 a3 a4 => by rw [tk.2 j a1 a2 a3 a4, ci_ne _ _ _ a0]
  have qi : ∀ j : Nat, j ≠ 10 → j ≠ 11 → j ≠ 12 → j ≠ 14 → j ≠ 17 → q.i j = Y.i j := fun j a1 a2 a3 a4 a5 => by rw [tu.1 j a1 a2 a3 a4, ri_ne a5]
  have q17 : q.i 17 = 1 := by
    rw [tu.1 17 (by decide) (by decide) (by decide) (by decide), ri_at, r17]
    decide
  have A53 : A.2.i 53 = 0 := by rw [Ai 53 (by decide) (by decide) (by decide) (by decide) (by decide)]; exact c53
  have A54 : A.2.i 54 = 0 := by rw [Ai 54 (by decide) (by decide) (by decide) (by decide) (by decide)]; exact c54
  have A55 : A.2.i 55 = 0 := by rw [Ai 55 (by decide) (by decide) (by decide) (by decide) (by decide)]; exact c55
  have A56 : A.2.i 56 = -1 := by rw [Ai 56 (by decide) (by decide) (by decide) (by decide) (by decide)]; exact c56
  have A38 : A.2.i 38 = 0 := by rw [Ai 38 (by decide) (by decide) (by decide) (by decide) (by decide)]; exact c38
  have A36 : A.2.i 36 = 1 := by rw [Ai 36 (by decide) (by decide) (by decide) (by decide) (by decide)]; exact c36
  have A34 : A.2.i 34 = 0 := by rw [Ai 34 (by decide) (by decide) (by decide) (by decide) (by decide)]; exact c34
  have A22 : A.2.i 22 = 0 := by rw [Ai 22 (by decide) (by decide) (by decide) (by decide) (by decide)]; exact c22
  have A21 : A.2.i 21 = 0 := by rw [Ai 21 (by decide) (by decide) (by decide) (by decide) (by decide)]; exact c21
  have A50 : A.2.i 50 = 2 := by rw [Ai 50 (by decide) (by decide) (by decide) (by decide) (by decide)]; exact c50
  have hm : cnI A.2 = ((0 : Nat) : Int) := by
    unfold cnI
    rw [A53]
    exact z_t0
  have hm' : (A.2.i 53).toInt = ((0 : Nat) : Int) := hm
  obtain ⟨a, ra, psr⟩ := y_push evA.ri.s hm (by omega) eP
  have psr : PSR A.2 W a 0 300 (A.2.i 50) := psr
  obtain ⟨zR, r53, r54, r55', r52, r21', r44⟩ := psr.z hm' (by omega) ⟨by rw [A54, z_t0]; exact Int.le_refl _, by rw [A54, z_t0]; omega⟩
  obtain ⟨⟨b1, b2, b3⟩, i1, ⟨-, -⟩, rr1, rr2, rw3, nb, ob1, ⟨f0, f1, f3, fl⟩, ⟨f5, f6, f7, f8⟩, ⟨f9, f10, f11, f12, f14⟩⟩ := id psr
  have iq := evA.ri.2.2.2.2.1
  have es0 : (cnI A.2).toNat = 0 := by rw [hm]; rfl
  rw [es0] at iq
  obtain ⟨iq1, wc1⟩ := iq.root rfl rr1 f0
  have sg1 : SGS W (0 + 1) = 0 := by
    show SGS W 0 + sgn W (rowA W 0) = 0
    rw [rowA.of rr1]
    unfold sgn
    rw [f0]
    rfl
  have k11 := evA.1.2.2.2.1.1
  have lc := evA.1.2.2.2.2.2.2.1
  have k44 := lc.2.1.1
  have egeP := (eI.ge W).1
  unfold plI at egeP
  rw [r44] at egeP
  have wR : RWI W := psr.ri evA.ri hm' (by omega) iq1 (by rw [wc1]; omega) (by
    rw [sg1]
    unfold sgI
    rw [i1 34 (by decide) (by decide), A34, z_t0]
    exact Int.le_refl _)
  rw [k11] at k44
  have evP : ENV 0 W q := evA.psh psr wR (by rw [A54, z_t0]; omega)
  -- the reference's row
  unfold f_X12_push at gV
  obtain ⟨-, gV⟩ := hf_ite gV
  have e0 : (RS.setI q 63 (-1)).i 63 + 1 = 0 := by
    rw [ri_at]
    decide
  rw [e0] at gV
  have en : (0 : Int32).toNatClampNeg = 0 := by decide
  rw [en] at gV
  have eV := (Option.some.inj gV).symm
  clear gV e0 en
  have Vi : ∀ j : Nat, j ≠ 63 → V.i j = q.i j := fun j hj => by
    rw [eV]
    show (RS.setI (RS.setI q 63 (-1)) 63 0).i j = q.i j
    rw [ri_ne hj, ri_ne hj]
  have V63 : tpI V = 0 := by
    rw [eV]
    rfl
  have V64 : V.a 64 0 = 1 := by rw [eV]; rfl
  have V65 : V.a 65 0 = 0 := by rw [eV]; rfl
  have Va : ∀ k : Nat, k ≠ 64 → k ≠ 65 → V.a k = q.a k := fun k h1 h2 => by
    rw [eV, setA_nk h2, setA_nk h1]
    rfl
  have Vb : V.b = q.b ∧ V.l = q.l := by rw [eV]; exact ⟨rfl, rfl⟩
  clear eV
  have V20 : (V.i 20).toInt = 0 := by rw [Vi 20 (by decide), qi 20 (by decide) (by decide) (by decide) (by decide) (by decide), r20]; exact z_t0
  have V17 : (V.i 17).toInt = 1 := by rw [Vi 17 (by decide), q17]; exact e1
  have ph : phI V = 3 := by
    unfold phI
    rw [V17, V20]
    rfl
  have Vz : ∀ j : Nat, (j = 43 ∨ j = 19 ∨ j = 24 ∨ j = 29 ∨ j = 33 ∨ j = 56 ∨ j = 59) → (V.i j).toInt = 0 := fun j hj => by
    rw [Vi j (by omega), qi j (by omega) (by omega) (by omega) (by omega) (by omega)]
    rcases hj with z | z | z | z | z | z | z <;> rw [z]
    · rw [r43]; exact z_t0
    · rw [r19]; exact z_t0
    · rw [r24]; exact z_t0
    · rw [r29]; exact z_t0
    · rw [r33]; exact z_t0
    · rw [r56]; exact z_t0
    · rw [r59]; exact z_t0
  have V38 : V.i 38 = 2 := by rw [Vi 38 (by decide), qi 38 (by decide) (by decide) (by decide) (by decide) (by decide)]; exact r38
  have V11 : V.i 11 = q.i 11 := Vi 11 (by decide)
  have hwp := evP.wp
  have wpV : WPI V := hwp.of (by rw [Vi 43 (by decide)]; exact Int.le_refl _) (Vi 56 (by decide)) (Vi 59 (by decide)) (Vi 29 (by decide)) (Va 58 (by decide) (by decide)) (Va 62 (by decide) (by decide))
  have evV : ENV 0 W V := evP.kq (Vi 38 (by decide)) (Vi 2 (by decide)) (Vi 3 (by decide)) (Vi 18 (by decide)) (Vi 53 (by decide)) (Vi 54 (by decide)) (Vi 55 (by decide)) (Va 1 (by decide) (by decide)) (Va 4 (by decide) (by decide)) (Va 41 (by decide) (by decide)) (congrFun Vb.1 9) (congrFun Vb.1 39) (Vi 10 (by decide)) (Vi 11 (by decide)) (Vi 12 (by decide)) (Vi 14 (by decide)) (Vi 15 (by decide)) (Vi 17 (by decide)) (Vi 19 (by decide)) Vb.2 ⟨by omega, by omega⟩ wpV
  -- the class's row
  have W53 : (W.i 53).toInt = 1 := by rw [r53, A53, z_t0]; rfl
  have W54 : (W.i 54).toInt = 1 := by rw [r54, A54, z_t0]; rfl
  have W55 : W.i 55 = 0 := by rw [r55', A55]
  have W56 : W.i 56 = -1 := by rw [i1 56 (by decide) (by decide), A56]
  have W22 : W.i 22 = 0 := by rw [i1 22 (by decide) (by decide), A22]
  have W38 : W.i 38 = 0 := by rw [i1 38 (by decide) (by decide), A38]
  have W36 : W.i 36 = 1 := by rw [i1 36 (by decide) (by decide), A36]
  have W50 : W.i 50 = 2 := by rw [i1 50 (by decide) (by decide), A50]
  have W21 : W.i 21 = 0 := by rw [r21', A21]
  have W1 : (W.o a 1).toInt = 1 := by
    rw [f1, A54]
    decide
  have W3 : W.o a 3 = 2 := by rw [f3, A50]
  have W14 : W.o a 14 = 0 := by rw [f14, A55]
  -- the base
  obtain ⟨b, hb⟩ : ∃ b, b = RS.setI V 11 (-1) := ⟨_, rfl⟩
  have bi : ∀ j : Nat, j ≠ 11 → b.i j = V.i j := fun j hj => by rw [hb, ri_ne hj]
  have b11 : b.i 11 = -1 := by rw [hb, ri_at]
  have ba : b.a = V.a := by rw [hb]; rfl
  have bb : b.b = V.b := by rw [hb]; rfl
  clear hb
  have phb : phI b = 3 := by
    unfold phI at *
    rw [bi 17 (by decide), bi 20 (by decide)]
    exact ph
  have no : ∀ v : Int32, v = 300 → ¬ isOne v ∧ ¬ isTy v ∧ ¬ isGo v ∧ ¬ isWl v ∧ ¬ v = 218 ∧ ¬ v = 303 ∧ ¬ v = 305 ∧ ¬ v = 216 := fun v hv => by
    rw [hv]
    unfold isOne isTy isGo isWl
    decide
  obtain ⟨no1, noT, noG, noW, n218, n303, n305, n216⟩ := no _ f0
  have wd : wid (W.o a 0) = 1 := by rw [f0]; rfl
  have rfr : RFR W V a 0 0 0 := RFR.m300 f0 V64
  have tbb : TBB b V := by
    unfold TBB
    rw [bi 38 (by decide), bi 43 (by decide), bi 56 (by decide), bi 59 (by decide), bi 29 (by decide), bi 33 (by decide), bi 24 (by decide), ba, bb]
    exact ⟨Int.le_refl _, Int.le_refl _, Int.le_refl _, fun j _ => ⟨rfl, rfl, rfl⟩, fun j _ => ⟨rfl, rfl, rfl, rfl, rfl, rfl, rfl, rfl⟩, fun j _ => ⟨rfl, rfl⟩, Int.le_refl _, fun j _ => ⟨rfl, rfl, rfl⟩, Int.le_refl _, fun j _ => rfl, Int.le_refl _, fun j _ => ⟨rfl, rfl⟩, Int.le_refl _, fun j _ => ⟨rfl, rfl, rfl⟩⟩
  have cor : COR 0 W b 0 [((0, a, 0, 0, 0) : CEL)] 0 W V := by
    refine ⟨evV, ?_, ?_, ?_, ?_, ⟨fun j hj => absurd hj (by omega), tbb, ⟨by rw [bi 20 (by decide)]; exact Int.le_refl _, fun j _ => by rw [ba]⟩, ⟨(bi 2 (by decide)).symm, (bi 3 (by decide)).symm, (bi 8 (by decide)).symm, by rw [ba], by rw [ba], by rw [bb]⟩⟩, ⟨?_, ?_, ?_, ?_⟩, ⟨?_, ?_, ?_, ?_, ?_⟩, ⟨?_, ?_, ?_⟩, ?_, ?_, ?_, ?_, fun _ => none, ?_⟩
    · exact ⟨_, _, _, CST.pl rr1 (by show 0 < 400; omega) rfr n218 noT, fun c0 hc => (by cases hc), trivial⟩
    · have one : ∀ y ∈ [((0, a, 0, 0, 0) : CEL)], y = ((0, a, 0, 0, 0) : CEL) := fun y hy => List.mem_singleton.mp hy
      have oy : ∀ y ∈ [((0, a, 0, 0, 0) : CEL)], W.o y.2.1 = W.o a := fun y hy => by rw [one y hy]
      refine ⟨fun y hy z => ?_, fun y hy z => ?_, fun k hk y hy z => ?_, fun k h1 h2 => ?_, fun y hy z => ?_, fun y hy z _ h1 => ?_, fun y hy => ?_, ⟨fun i hi hg => ?_, fun y hy z => ?_⟩⟩
      · rw [oy y hy] at z
        exact absurd z noG
      · rw [oy y hy] at z
        exact absurd z noG
      · rw [oy y hy] at z
        exact absurd z noT
      · rw [bi 59 (by decide)] at h1
        omega
      · rw [oy y hy] at z
        exact absurd z noT
      · rw [oy y hy] at h1
        exact absurd h1 noT
      · rw [oy y hy, W14, W55, W1, W54, z_t0]
        exact ⟨by omega, Int.le_refl _, Int.le_refl _, Int.le_refl _, fun z => absurd z n216⟩
      · rw [W55, z_t0] at hi
        omega
      · rw [oy y hy] at z
        exact absurd z noG
    · unfold LBC
      rw [if_neg n303, if_neg (fun z => noG (by
        rcases z with z | z | z | z
        · exact Or.inr (Or.inr (Or.inl z))
        · exact Or.inr (Or.inr (Or.inr (Or.inl z)))
        · exact Or.inr (Or.inr (Or.inr (Or.inr (Or.inl z))))
        · exact Or.inr (Or.inr (Or.inr (Or.inr (Or.inr z))))))]
      trivial
    · exact ⟨fun _ _ => rfl, fun _ _ _ _ => ⟨rfl, rfl⟩, Int.le_refl _, Int.le_refl _, fun _ _ => rfl, Int.le_refl _, Int.le_refl _, fun _ _ => rfl, fun k h1 h2 => by omega, ⟨Int.le_refl _, Int.le_refl _, Int.le_refl _⟩, rfl⟩
    · rw [b11, m1, V11]
      omega
    · have y : PDM W [((0, a, 0, 0, 0) : CEL)] = dbt (W.o a 0) + 0 := rfl
      have w : dbt (W.o a 0) = 0 := by rw [f0]; rfl
      rw [phb, y, w, ph]
      omega
    · rw [bi 17 (by decide)]
      exact Int.le_refl _
    · have y : SSM W [((0, a, 0, 0, 0) : CEL)] = (nSg (W.o a 0) : Int) + 0 := rfl
      have w : nSg (W.o a 0) = 0 := by rw [f0]; rfl
      rw [y, w, bi 19 (by decide)]
      show _ = _ + (((0 : Nat) : Int) + 0)
      omega
    · have y : DSM W [((0, a, 0, 0, 0) : CEL)] = (nDp (W.o a 0) : Int) + 0 := rfl
      have w : nDp (W.o a 0) = 0 := by rw [f0]; rfl
      rw [y, w]
      show _ = _ + (((0 : Nat) : Int) + 0)
      omega
    · intro y hy
      rw [List.mem_singleton.mp hy]
      show (b.i 38).toInt ≤ (W.o a 3).toInt ∧ (W.o a 3).toInt ≤ (W.i 50).toInt
      rw [W3, W50, bi 38 (by decide), V38]
      exact ⟨Int.le_refl _, Int.le_refl _⟩
    · intro y hy z hz l
      rw [List.mem_singleton.mp hy, List.mem_singleton.mp hz]
      exact Int.le_refl _
    · show cfl W [] (if W.o a 0 = 218 then (W.o a 13).toInt else (W.i 22).toInt) = (W.i 22).toInt
      rw [if_neg n218]
      rfl
    · intro y hy
      rw [List.mem_singleton.mp hy]
      exact ⟨fun z => absurd z noT, fun z => absurd z n218⟩
    · rw [W21, z_t0, V11]
      omega
    · rw [V38, e2, V11]
      omega
    · rw [W54, V11]
      omega
    · unfold IAR
      rw [W56, m1, Vz 43 (by decide)]
      exact ⟨⟨fun z => absurd z (by decide), fun ⟨g, hg, _⟩ => absurd hg (by omega)⟩, fun z => absurd z (by decide)⟩
    · rw [bi 29 (by decide), Vz 29 (by decide)]
      exact Int.le_refl _
    · rw [phb]
      exact Int.le_refl _
    · rw [bi 20 (by decide), V20]
      exact Int.le_refl _
    · refine ⟨fun k x e => (by cases e), fun k x e => (by cases e), fun y hy z => ?_, fun k g e h => (by cases h), fun y hy z => ?_, fun y hy z _ h1 => ?_, fun y hy k p => ?_⟩
      · rw [List.mem_singleton.mp hy] at z
        exact absurd z noG
      · rw [List.mem_singleton.mp hy] at z
        exact absurd z n218
      · rw [List.mem_singleton.mp hy] at h1
        exact absurd h1 n218
      · exfalso
        rw [List.mem_singleton.mp hy] at p
        have p' : ((W.o a 0 = 203 ∨ W.o a 0 = 304) ∧ k = (V.a 66 0).toInt) ∨ (W.o a 0 = 204 ∧ k = (V.a 68 0).toInt) ∨ ((W.o a 0 = 205 ∨ W.o a 0 = 207) ∧ k = (V.a 67 0).toInt) := p
        rw [f0] at p'
        rcases p' with ⟨z | z, -⟩ | ⟨z, -⟩ | ⟨z | z, -⟩ <;> exact absurd z (by decide)
  have rsb : RSB W b := by
    obtain ⟨z20, z23, z480, z481⟩ := cz2
    obtain ⟨y42, y52, y400, y401⟩ := rz2
    have W20 : (W.i 20).toInt = 0 := by rw [i1 20 (by decide) (by decide), Ai 20 (by decide) (by decide) (by decide) (by decide) (by decide), z20]; exact z_t0
    have W23 : (W.i 23).toInt = 2 := by rw [i1 23 (by decide) (by decide), Ai 23 (by decide) (by decide) (by decide) (by decide) (by decide), z23]; exact e2
    have W21' : (W.i 21).toInt = 0 := by rw [W21]; exact z_t0
    have Wa : W.a = Z.a := b1.trans tk.1.2.2.2.2.2.2.2.2.2.2
    have qa : q.a = Y.a := tu.2.1
    have v11 : 0 ≤ (V.i 11).toInt := (i11_hi evV).1
    have w44 : (W.i 44).toInt = (V.i 11).toInt := by rw [evV.p44.1]
    have bq : ∀ j : Nat, j ≠ 10 → j ≠ 11 → j ≠ 12 → j ≠ 14 → j ≠ 17 → j ≠ 63 → b.i j = Y.i j := fun j h1 h2 h3 h4 h5 h6 => by rw [bi j h2, Vi j h6, qi j h1 h2 h3 h4 h5]
    have b42 : (b.i 42).toInt = 2 := by rw [bq 42 (by decide) (by decide) (by decide) (by decide) (by decide) (by decide), y42]; exact e2
    have b20 : (b.i 20).toInt = 0 := by rw [bi 20 (by decide)]; exact V20
    have slb : SLO b := by
      unfold SLO
      omega
    refine ⟨⟨⟨⟨⟨by omega, by omega⟩, by omega, by omega, by omega, by omega⟩, by omega⟩, by omega, by omega⟩, slb, by rw [b11, m1]; exact Int.le_refl _, ⟨by unfold pcC; rw [W20]; rfl, by unfold pcR; rw [b20]; rfl⟩, ⟨W23, b42⟩, fun nm h0 h1 => ⟨fun k hk => ?_, ?_, ?_, ?_, slb, fun e he => absurd he List.not_mem_nil⟩⟩
    · rw [bi 38 (by decide), V38, e2] at hk
      rw [Wa, ba, Va 40 (by decide) (by decide), qa]
      have hk' : k = 0 ∨ k = 1 := by omega
      rcases hk' with z | z
      · rw [z, z480, y400, cn0]
        exact ⟨fun _ => ⟨0, 0, by decide, by decide, h0⟩, fun q => absurd q (by decide)⟩
      · rw [z, z481, y401, cn1]
        exact ⟨fun _ => ⟨1, 1, by decide, by decide, h1⟩, fun q => absurd q (by decide)⟩
    · rw [W38, z_t0]
      rfl
    · rw [bq 52 (by decide) (by decide) (by decide) (by decide) (by decide) (by decide), y52, z_t0]
      rfl
    · rw [bi 19 (by decide), Vz 19 (by decide)]
      exact Int.le_refl _
  have jx : ∀ U : RS, JRX RBA U W b (vws W V [((0, a, 0, 0, 0) : CEL)]) W V := fun U => by
    have v11 : 0 ≤ (V.i 11).toInt := (i11_hi evV).1
    refine (JRW.ini (r := vw W V (0, a, 0, 0, 0)) (Or.inl (vw_v.trans f0)) W36 ⟨⟨(bi 20 (by decide)).symm, (bi 24 (by decide)).symm, (bi 29 (by decide)).symm, (bi 33 (by decide)).symm, (bi 42 (by decide)).symm⟩, by rw [ba], by rw [ba], by rw [ba], by rw [ba], by rw [ba], by rw [ba], by rw [ba], by rw [ba], by rw [ba], by rw [ba], by rw [ba], by rw [ba], by rw [ba], by rw [ba]⟩ (bi 52 (by decide)).symm ⟨(bi 38 (by decide)).symm, fun j _ => by rw [ba]⟩ (by rw [b11, m1]; omega) (by rw [bi 19 (by decide)]; exact Int.le_refl _)).x
  refine ⟨b, (0, a, 0, 0, 0), fun U => ⟨0, cor, ⟨?_, ?_, ?_⟩, ⟨Or.inl ⟨no1, n305, ?_, ?_, Or.inl ⟨?_, W36⟩, fun z => absurd z n218⟩, Or.inr W36⟩, ?_, ?_, fun z => absurd z.1 no1, jx U⟩, ⟨bi, rsb⟩, W53, by rw [W56]; exact m1⟩
  · show (W.i 53).toInt = ((0 : Nat) : Int) + 1
    rw [W53]
    rfl
  · show (V.i 43).toInt = ((0 : Nat) : Int) + (nGo (W.o a 0) : Int)
    rw [nGo.eq noG, Vz 43 (by decide)]
    rfl
  · show (V.i 56).toInt = ((0 : Nat) : Int) + (nWl (W.o a 0) : Int)
    rw [nWl.eq noW, Vz 56 (by decide)]
    rfl
  · show tpI V = ((0 : Nat) : Int) + (wid (W.o a 0) : Int) - 1
    rw [wd, V63]
    rfl
  · show V.a 64 (0 + wid (W.o a 0) - 1) = 1
    rw [wd]
    exact V64
  · show V.a 65 (0 + wid (W.o a 0) - 1) = 0
    rw [wd]
    exact V65
  · refine ⟨⟨noG, noT⟩, ⟨by rw [bi 43 (by decide), Vz 43 (by decide)]; rfl, Or.inl rfl⟩, by rw [bi 56 (by decide), Vz 56 (by decide)]; rfl, by show (W.i 54).toInt ≤ (W.o a 1).toInt; rw [W1, W54]; exact Int.le_refl _, fun z => ?_, ⟨by show (W.i 53).toInt = ((0 : Nat) : Int) + 1; rw [W53]; rfl, rr1, by rw [bi 38 (by decide), V38, e2]; exact Int.le_refl _, by show (W.i 55).toInt ≤ (W.o a 14).toInt; rw [W14, W55]; exact Int.le_refl _, by rw [W38, z_t0]; exact Int.le_refl _, ?_⟩, Or.inr ⟨rfl, by rw [W56]; exact m1, f0⟩⟩
    · rw [bi 56 (by decide), Vz 56 (by decide)] at z
      omega
    · unfold WPI at *
      rw [bi 43 (by decide), bi 56 (by decide), bi 59 (by decide), bi 29 (by decide), ba]
      exact wpV
  · show 0 + 1 = 0 + wid (W.o a 0)
    rw [wd]
end
section
/-! both readers: a whole text -/
theorem rd_199 {N : Nat} {s : RS} {U : Int32 × RS} (g : f_X12_read_199 N s = some U) (j : Nat) (h1 : j ≠ 79) (h2 : j ≠ 81) : U.2.i j = s.i j := by
  unfold f_X12_read_199 at g
  by_cases c : s.i 15 = 0
  · rw [if_pos c] at g
    rw [← Option.some.inj g]
    show (RS.setI (RS.setI s 79 0) 81 0).i j = s.i j
    rw [ri_ne h2, ri_ne h1]
  · rw [if_neg c] at g
    rw [← Option.some.inj g]
    show (RS.setI (RS.setI s 79 0) 81 0).i j = s.i j
    rw [ri_ne h2, ri_ne h1]
theorem rd_167 {N : Nat} {s : RS} {U : Int32 × RS} (g : f_X12_read_167 N s = some U) : (s.i 15 = 0 → U.2.i 77 = 1) ∧ (¬ s.i 15 = 0 → U.2.i 77 = 0) ∧ U.2.i 78 = s.i 75 ∧ U.2.i 53 = s.i 53 ∧ U.2.i 54 = s.i 54 ∧ U.2.i 55 = s.i 55 := by
  unfold f_X12_read_167 at g
  obtain ⟨-, g⟩ := hf_ite g
  have go : ∀ v : Int32, f_X12_read_199 N (RS.setI (RS.setI (RS.setI s 78 (s.i 75)) 76 (s.i 15)) 77 v) = some U → U.2.i 77 = v ∧ U.2.i 78 = s.i 75 ∧ U.2.i 53 = s.i 53 ∧ U.2.i 54 = s.i 54 ∧ U.2.i 55 = s.i 55 := fun v q => by
    have z := rd_199 q
    rw [z 77 (by decide) (by decide), z 78 (by decide) (by decide), z 53 (by decide) (by decide), z 54 (by decide) (by decide), z 55 (by decide) (by decide)]
    exact ⟨rfl, rfl, rfl, rfl, rfl⟩
  by_cases c : s.i 15 = 0
  · rw [if_pos c] at g
    obtain ⟨z1, z2⟩ := go 1 g
    exact ⟨fun _ => z1, fun q => absurd c q, z2⟩
  · rw [if_neg c] at g
    obtain ⟨z1, z2⟩ := go 0 g
    exact ⟨fun q => absurd q c, fun _ => z1, z2⟩
theorem rd_flt {N : Nat} {s : RS} {U : Int32 × RS} (h : ¬ s.i 15 = 0) (g : f_X12_read_138 N s = some U) : U.2.i 77 = 0 := by
  unfold f_X12_read_138 at g
  rw [if_neg h] at g
  exact (rd_167 g).2.1 h
/-- the class's end -/
theorem trl_end {N : Nat} {E1 : CS → Option (Unit × CS)} {E2 : CS → Option (Int32 × CS)} {R : CS} {p : Int32 × CS} (e : (if (R.i 37) < 0 then f_X7_translate_139 N E1 E2 R else (f_X1_fail N R 7 (R.i 37)).bind fun p49 => f_X7_translate_139 N E1 E2 p49.2) = some p) : (R.i 37 < 0 → p = (R.i 32, R)) ∧ (¬ R.i 37 < 0 → ¬ p.1 = 0) ∧ (¬ R.i 32 = 0 → ¬ p.1 = 0) := by
  unfold f_X7_translate_139 at e
  by_cases c : R.i 37 < 0
  · rw [if_pos c] at e
    have z := (Option.some.inj e).symm
    refine ⟨fun _ => z, fun q => absurd c q, fun q => ?_⟩
    rw [z]
    exact q
  · rw [if_neg c] at e
    obtain ⟨w, ew, e⟩ := hf_bind e
    have z := (Option.some.inj e).symm
    have f := y_fail (by decide) ew
    refine ⟨fun q => absurd q c, fun _ => ?_, fun _ => ?_⟩
    · rw [z]
      exact f
    · rw [z]
      exact f
/-- what a read leaves: the same program told, or none -/
def PRG (σ : CS) (r : RS) : Prop := (σ.i 7 = 0 ∧ r.i 77 = 0) ∨ ((¬ σ.i 7 = 0 ∧ ¬ r.i 77 = 0) ∧ σ.i 24 = r.i 53 ∧ σ.i 25 = r.i 54 ∧ σ.i 26 = r.i 55 ∧ (σ.i 27 = 0 ↔ r.i 78 = 0))
/-- the rest of read's end leaves the code -/
theorem rd_199a {N : Nat} {s : RS} {U : Int32 × RS} (g : f_X12_read_199 N s = some U) : U.2.a = s.a := by
  unfold f_X12_read_199 at g
  by_cases c : s.i 15 = 0
  · rw [if_pos c] at g
    rw [← Option.some.inj g]
    rfl
  · rw [if_neg c] at g
    rw [← Option.some.inj g]
    rfl
theorem rd_167a {N : Nat} {s : RS} {U : Int32 × RS} (g : f_X12_read_167 N s = some U) : U.2.a = s.a ∧ ∀ j : Nat, ¬ (76 ≤ j ∧ j ≤ 81) → U.2.i j = s.i j := by
  unfold f_X12_read_167 at g
  obtain ⟨-, g⟩ := hf_ite g
  have go : ∀ v : Int32, f_X12_read_199 N (RS.setI (RS.setI (RS.setI s 78 (s.i 75)) 76 (s.i 15)) 77 v) = some U → U.2.a = s.a ∧ ∀ j : Nat, ¬ (76 ≤ j ∧ j ≤ 81) → U.2.i j = s.i j := fun v q => ⟨by
    rw [rd_199a q]
    rfl, fun j hj => by rw [rd_199 q j (by omega) (by omega), ri_ne (by omega), ri_ne (by omega), ri_ne (by omega)]⟩
  by_cases c : s.i 15 = 0
  · rw [if_pos c] at g
    exact go 1 g
  · rw [if_neg c] at g
    exact go 0 g
/-- both codes belong together -/
def CDX (s0 : CS) (r0 : RS) : Prop := ∃ (nm : Nat → Nat → Prop) (AL : Als), CODW s0 r0 nm AL ∧ nm 0 0 ∧ nm 1 1 ∧ ∀ k l : Nat, nm k l → (k : Int) < (s0.i 23).toInt
/-- at a read's end: the states that hold both codes -/
def RDC (T : CS) (U : RS) : Prop := ∃ (s0 : CS) (r0 : RS), CDX s0 r0 ∧ (T.a = s0.a ∧ ∀ j : Nat, j ≠ 6 → j ≠ 7 → T.i j = s0.i j) ∧ U.a = r0.a ∧ ∀ j : Nat, j ≠ 2 → ¬ (76 ≤ j ∧ j ≤ 81) → U.i j = r0.i j
theorem cdx_of {W R : CS} {b U : RS} (rsb : RSB W b) (fcd : FCD W b R U) (u18 : U.i 18 < 0) (h42 : (U.i 42).toInt ≤ 460) : CDX R U := by
  obtain ⟨crW, slb, b11, ⟨pW, pb⟩, ⟨w23, b42⟩, ng⟩ := rsb
  obtain ⟨FC, M, ⟨l23, h23⟩, ⟨gm1, gm2⟩, main⟩ := fcd crW slb u18 b11
  rw [w23, b42] at gm1
  rw [w23] at l23
  obtain ⟨nm, hnm⟩ : ∃ nm : Nat → Nat → Prop, nm = fun k l => M k l ∨ (k = l ∧ k < 2) := ⟨_, rfl⟩
  have nk : ∀ k l : Nat, nm k l ↔ (M k l ∨ (k = l ∧ k < 2)) := fun k l => by rw [hnm]
  clear hnm
  have n0 : nm 0 0 := (nk 0 0).mpr (Or.inr ⟨rfl, by omega⟩)
  have n1 : nm 1 1 := (nk 1 1).mpr (Or.inr ⟨rfl, by omega⟩)
  have gu := main nm (fun k l h => ⟨fun z => ((nk k l).mp z).resolve_right (fun q => by
    rw [w23, b42] at h
    omega), fun z => (nk k l).mpr (Or.inl z)⟩) (ng nm n0 n1)
  rw [pW, pb] at gu
  have nn : NMP nm := by
    refine ⟨fun c l h => ?_, fun c l c' l' h h' => ?_⟩
    · rcases (nk c l).mp h with z | ⟨z, z'⟩
      · obtain ⟨⟨z1, z2⟩, z3, z4⟩ := gm1 c l z
        omega
      · omega
    · rcases (nk c l).mp h with z | ⟨z, z'⟩ <;> rcases (nk c' l').mp h' with y | ⟨y, y'⟩
      · exact gm2 c l c' l' z y
      · obtain ⟨⟨z1, z2⟩, z3, z4⟩ := gm1 c l z
        omega
      · obtain ⟨⟨z1, z2⟩, z3, z4⟩ := gm1 c' l' y
        omega
      · omega
  obtain ⟨AL, cod⟩ := cod_of nn (w := 1300 - 0) (by omega) (gu.1.resolve_right id)
  refine ⟨nm, AL, cod, n0, n1, fun k l h => ?_⟩
  rcases (nk k l).mp h with z | ⟨z, z'⟩
  · exact (gm1 k l z).1.2
  · omega
theorem rd_both {N : Nat} (hN : 1000 ≤ N) {h0 : Nat} {σ : CS} {r : RS} (hc : CIV h0 σ) (hr : RB r) (ht : TXB σ r) {T : Int32 × CS} {U : Int32 × RS} (e : f_X11_read N (fEE N 23).1 (fEE N 23).2 σ = some T) (g : f_X12_read N r = some U) : PRG T.2 U.2 ∧ (¬ T.2.i 7 = 0 → (U.2.i 42).toInt ≤ 460 → RDC T.2 U.2) := by
  unfold f_X11_read at e
  obtain ⟨p1, e1, e⟩ := hf_bind e
  have eT : (p1.1 = 0 → T.2 = CS.setI (CS.setI p1.2 6 p1.1) 7 1) ∧ (¬ p1.1 = 0 → T.2 = CS.setI (CS.setI p1.2 6 p1.1) 7 0) := by
    have z : ∀ X : CS, f_X11_read_43 N (fEE N 23).1 (fEE N 23).2 X = some T → T.2 = X := fun X q => by
      unfold f_X11_read_43 at q
      by_cases c : X.i 7 = 0
      · rw [if_pos c] at q
        rw [← Option.some.inj q]
      · rw [if_neg c] at q
        rw [← Option.some.inj q]
    refine ⟨fun q => ?_, fun q => ?_⟩
    · rw [if_pos q] at e
      exact z _ e
    · rw [if_neg q] at e
      exact z _ e
  have T0 : ¬ p1.1 = 0 → T.2.i 7 = 0 := fun q => by rw [eT.2 q, ci_at]
  obtain ⟨Z, A, P, R, cz, es, eA, eP, eR, e1, cz2⟩ := tr_open e1
  obtain ⟨Y, q, V, p7, rz, gq, gV, g7, g, rz2⟩ := rd_open g
  obtain ⟨b, c, sti, ⟨bi, rsb⟩, h53, h56⟩ := rt_start hN hc hr ht cz es eA eP rz gq gV cz2 rz2
  have hY : YBA RBA p7 P.2 b := fun z => absurd z (by rw [h56]; decide)
  have mA : JBM p7 RBA := fun _ _ _ _ _ _ _ _ _ _ => True.intro
  have hU : KU3 p7 b := by
    obtain ⟨x, hC, -⟩ := sti p7
    have u3 : p7.i 3 = V.i 3 := (kln_f_X12_parse_10 N N V p7 g7).2
    exact ⟨by rw [u3, bi 3 (by decide)], by rw [u3]; exact hC.1.2.2.2.2.2.1.2.2.2.1.1⟩
  have L := tn_loop hN (kFEE N 23).1 (kFEE N 23).2 (sx_EE hN 23).1 (sx_EE hN 23).2 hY mA hU (d := 0) (B := P.2) (b := b) (t0 := 0) (n0 := 0) (x1 := 0) (U := p7) (Q := fun R' => QRT 0 P.2 b p7 R') z_t0 (by rw [h53]; rfl) (fun S s c' m P' h' tk k g' => Or.inr (rt_end hN h' h56 tk k g')) N P.2 0 R eR (Or.inl ⟨N, V, c, [], g7, sti p7⟩)
  obtain ⟨d1, d2, d3⟩ := trl_end e1
  have gf : ¬ p7.i 15 = 0 ∨ ¬ p7.i 10 = 0 → U.2.i 77 = 0 := fun z => by
    by_cases c0 : p7.i 10 = 0
    · rw [if_pos c0] at g
      obtain ⟨w, gw, g⟩ := hf_bind g
      have z' := z.resolve_right (fun y => y c0)
      rw [e_can, if_pos z'] at gw
      refine rd_flt ?_ g
      rw [← Option.some.inj gw]
      exact z'
    · rw [if_neg c0] at g
      obtain ⟨w, gw, g⟩ := hf_bind g
      exact rd_flt (y_can0 gw).2 g
  rcases L with ⟨z1, z2⟩ | ⟨z1, z2⟩ | ⟨z32, ⟨z15, z10⟩, ⟨z24, z26, z25⟩, ⟨z27, -⟩, z37, fcd⟩
  · exact ⟨Or.inl ⟨T0 (d3 z1), gf (Or.inl z2)⟩, fun z => absurd (T0 (d3 z1)) z⟩
  · exact ⟨Or.inl ⟨T0 (d3 z1), gf (Or.inr z2)⟩, fun z => absurd (T0 (d3 z1)) z⟩
  rw [if_pos z10, y_can1 z15 (by rw [z10]; decide), ob_some] at g
  have g' : f_X12_read_138 N p7 = some U := g
  unfold f_X12_read_138 at g'
  rw [if_pos z15] at g'
  by_cases c37 : R.2.i 37 < 0
  · refine ⟨Or.inr ?_, ?_⟩
    rotate_left
    · intro _ h42
      have c18 : p7.i 18 < 0 := Int32.lt_iff_toInt_lt.mpr (by
        have h1 := lt_int c37
        rw [z_t0] at h1 ⊢
        by_cases w : 0 ≤ (p7.i 18).toInt
        · have := z37.mpr w
          omega
        · omega)
      rw [if_pos c18] at g'
      obtain ⟨ua, ui⟩ := rd_167a g'
      have hp := d1 c37
      have eT' := eT.1 (by rw [hp]; exact z32)
      rw [hp] at eT'
      have ui' : ∀ j : Nat, j ≠ 2 → ¬ (76 ≤ j ∧ j ≤ 81) → U.2.i j = p7.i j := fun j h1 h2 => by rw [ui j h2, ri_ne h1]
      refine ⟨R.2, p7, cdx_of rsb fcd c18 (by rw [← ui' 42 (by decide) (by omega)]; exact h42), ⟨by rw [eT']; rfl, fun j h1 h2 => by rw [eT', ci_ne _ _ _ h2, ci_ne _ _ _ h1]⟩, by rw [ua]; rfl, ui'⟩
    have c18 : p7.i 18 < 0 := Int32.lt_iff_toInt_lt.mpr (by
      have h1 := lt_int c37
      rw [z_t0] at h1 ⊢
      by_cases w : 0 ≤ (p7.i 18).toInt
      · have := z37.mpr w
        omega
      · omega)
    rw [if_pos c18] at g'
    obtain ⟨u1, -, u78, u53, u54, u55⟩ := rd_167 g'
    have hp := d1 c37
    have eT' := eT.1 (by rw [hp]; exact z32)
    rw [hp] at eT'
    have Ti : ∀ j : Nat, j ≠ 6 → j ≠ 7 → T.2.i j = R.2.i j := fun j h1 h2 => by rw [eT', ci_ne _ _ _ h2, ci_ne _ _ _ h1]
    have pi : ∀ j : Nat, j ≠ 2 → (RS.setI p7 2 0).i j = p7.i j := fun j hj => ri_ne hj
    refine ⟨⟨?_, ?_⟩, ?_, ?_, ?_, ?_⟩
    · rw [eT', ci_at]
      decide
    · rw [u1 ((pi 15 (by decide)).trans z15)]
      decide
    · rw [Ti 24 (by decide) (by decide), u53, pi 53 (by decide)]
      exact z24
    · rw [Ti 25 (by decide) (by decide), u54, pi 54 (by decide), ← z25]
      exact (Int32.add_zero _).symm
    · rw [Ti 26 (by decide) (by decide), u55, pi 55 (by decide)]
      exact z26
    · rw [Ti 27 (by decide) (by decide), u78, pi 75 (by decide), z27]
  · refine ⟨Or.inl ?_, fun z => absurd (T0 (d2 c37)) z⟩
    have c18 : ¬ p7.i 18 < 0 := fun q => c37 (Int32.lt_iff_toInt_lt.mpr (by
      have h1 := lt_int q
      rw [z_t0] at h1 ⊢
      by_cases w : 0 ≤ (R.2.i 37).toInt
      · have := z37.mp w
        omega
      · omega))
    rw [if_neg c18] at g'
    obtain ⟨w, gw, g'⟩ := hf_bind g'
    refine ⟨T0 (d2 c37), (rd_167 g').2.1 ?_⟩
    unfold f_X12_fail at gw
    rw [if_pos (show (RS.setI p7 2 0).i 15 = 0 from z15)] at gw
    rw [← Option.some.inj gw]
    show ¬ (7 : Int32) = 0
    decide
end
