/-! both readers: one turn -/
/-- the base's frame -/
def BTL (B : CS) (t0 : Nat) : List CEL → Prop
  | [] => False
  | [c] => t0 + 1 = ceT c + wid (B.o c.2.1 0)
  | _ :: c0 :: L => BTL B t0 (c0 :: L)
theorem BTL.at {B : CS} {b : RS} {S : CS} {s : RS} {t0 : Nat} (cb : CBB B S) : ∀ (L : List CEL) (c : CEL) (m e k : Int), BTL B t0 (c :: L) → BAZ B b (c :: L) → STK S s (c :: L) m e k → t0 + 1 ≤ ceT c + wid (S.o c.2.1 0)
  | [], c, m, e, k, h, bz, st => by
    obtain ⟨-, -, -, -, -, ⟨h7, h8, -⟩, -⟩ := bz
    rw [(cb.2.1 c.1 c.2.1 (by omega) h8).1]
    have h' : t0 + 1 = ceT c + wid (B.o c.2.1 0) := h
    omega
  | c0 :: L, c, m, e, k, h, bz, st => by
    obtain ⟨m', e', k', g1, g2, g3⟩ := st
    obtain ⟨l1, -⟩ := g2 c0 rfl
    have z := BTL.at cb L c0 m' e' k' h bz g3
    have := l1.2.1
    omega
theorem BTL.up {B : CS} {b : RS} {S : CS} {s : RS} {t0 : Nat} {L : List CEL} {c1 c : CEL} {m e k : Int} (cb : CBB B S) (h : BTL B t0 (c1 :: c :: L)) (bz : BAZ B b (c1 :: c :: L)) (st : STK S s (c1 :: c :: L) m e k) : t0 ≤ ceT c1 := by
  obtain ⟨m', e', k', g1, g2, g3⟩ := st
  obtain ⟨l1, -⟩ := g2 c rfl
  have z := BTL.at cb L c m' e' k' h bz g3
  have := l1.2.1
  omega
/-- the base is a list of its own -/
theorem BAZ.srt {B : CS} {b : RS} {S : CS} {c : CEL} (cb : CBB B S) (bz : BAZ B b [c]) : S.o c.2.1 0 = 300 ∨ S.o c.2.1 0 = 302 := by
  obtain ⟨-, -, -, -, -, ⟨h7, h8, -⟩, h9⟩ := bz
  rw [(cb.2.1 c.1 c.2.1 (by omega) h8).1]
  rcases h9 with ⟨-, z⟩ | ⟨-, -, z⟩
  · exact Or.inr z
  · exact Or.inl z
/-- what stands between two turns -/
def STI (Aj : JBA) (U : RS) (d : Int32) (B : CS) (b : RS) (t0 : Nat) (S : CS) (s : RS) (c : CEL) (L : List CEL) : Prop := ∃ x : Int, COR d B b t0 (c :: L) x S s ∧ TOP S s c ∧ MOD c S s ∧ BAZ B b (c :: L) ∧ BTL B t0 (c :: L) ∧ (MBO c S s → x = cod c S s) ∧ JRX Aj U B b (vws S s (c :: L)) S s
/-- what comes of a turn -/
def TOU (Aj : JBA) (N : Nat) (d : Int32) (B : CS) (b : RS) (t0 : Nat) (R : CS) (U : RS) : Prop := (¬ R.i 32 = 0 ∧ ¬ U.i 15 = 0) ∨ DMD d B R U ∨ NDM B R U ∨ ∃ (m : Nat) (u : RS) (c : CEL) (L : List CEL), f_X12_parse_10 N m u = some U ∧ STI Aj U d B b t0 R u c L
theorem MOR.mod {c : CEL} {S : CS} {s : RS} (h : MOR c S s) : MOD c S s := by
  obtain ⟨h | h, h36⟩ := h
  · exact ⟨Or.inl h, h36⟩
  · exact ⟨Or.inr (Or.inr (Or.inl h)), h36⟩
theorem POPD.sti {d : Int32} {B : CS} {b : RS} {t0 : Nat} {c : CEL} {L : List CEL} {R : CS} {u U : RS} {Aj : JBA} (h : POPD d B b t0 c L R u) (hj : JRX Aj U B b (vws R u (c :: L)) R u) (bz : BAZ B b (c :: L)) (bt : BTL B t0 (c :: L)) : STI Aj U d B b t0 R u c L := by
  obtain ⟨h1, h2, h3⟩ := h
  refine ⟨_, h1, h2, h3.mod, bz, bt, fun z => ?_, hj⟩
  exfalso
  obtain ⟨z1, z2, -⟩ := z
  rcases h3.1 with y | y
  · exact y.1 z1
  · rw [y.2.1] at z2
    exact absurd z2 (by decide)
theorem NEW.sti {d : Int32} {B : CS} {b : RS} {t0 : Nat} {c : CEL} {L : List CEL} {R : CS} {u U : RS} {Aj : JBA} {J : List RVW → CS → RS → Prop} (h : NEW d B b t0 c L R u J) (f : ∀ (V : List RVW) (R : CS) (u : RS), J V R u → JRX Aj U B b V R u) (bz : BAZ B b (c :: L)) (bt : BTL B t0 (c :: L)) : ∃ c1 : CEL, STI Aj U d B b t0 R u c1 (c :: L) := by
  obtain ⟨c1, h1, h2, h3, h4⟩ := h
  exact ⟨c1, _, h1, h2, h3, bz, bt, fun _ => rfl, f _ _ _ h4⟩
theorem tou_new {N : Nat} {d : Int32} {B : CS} {b : RS} {t0 : Nat} {c : CEL} {L : List CEL} {R : CS} {U : RS} {Aj : JBA} {J : List RVW → CS → RS → Prop} (f : ∀ (V : List RVW) (R : CS) (u : RS), J V R u → JRX Aj U B b V R u) (bz : BAZ B b (c :: L)) (bt : BTL B t0 (c :: L)) (h : ∃ (m : Nat) (u : RS), f_X12_parse_10 N m u = some U ∧ NEW d B b t0 c L R u J) : TOU Aj N d B b t0 R U := by
  obtain ⟨m, u, g, h⟩ := h
  obtain ⟨c1, h⟩ := h.sti f bz bt
  exact Or.inr (Or.inr (Or.inr ⟨m, u, c1, c :: L, g, h⟩))
theorem tou_pop {N : Nat} {d : Int32} {B : CS} {b : RS} {t0 : Nat} {c : CEL} {L : List CEL} {R : CS} {U : RS} {Aj : JBA} {J : List RVW → CS → RS → Prop} (f : ∀ (V : List RVW) (R : CS) (u : RS), J V R u → JRX Aj U B b V R u) (bz : BAZ B b (c :: L)) (bt : BTL B t0 (c :: L)) (h : ∃ (m : Nat) (u : RS), f_X12_parse_10 N m u = some U ∧ POPD d B b t0 c L R u ∧ J (vws R u (c :: L)) R u) : TOU Aj N d B b t0 R U := by
  obtain ⟨m, u, g, h, hj⟩ := h
  exact Or.inr (Or.inr (Or.inr ⟨m, u, c, L, g, h.sti (f _ _ _ hj) bz bt⟩))
theorem tou_outs {N : Nat} {d : Int32} {B : CS} {b : RS} {t0 T : Nat} {c : CEL} {L : List CEL} {x : Int} {R : CS} {U : RS} {Aj : JBA} {J : List RVW → CS → RS → Prop} (f : ∀ (V : List RVW) (R : CS) (u : RS), J V R u → JRX Aj U B b V R u) (bz : BAZ B b (c :: L)) (bt : BTL B t0 (c :: L)) (h : OUTS N d B b t0 T c L x R U J) : TOU Aj N d B b t0 R U := by
  rcases h.pop with z | z | z | z
  · exact Or.inl z
  · exact Or.inr (Or.inl z)
  · exact tou_new f bz bt z
  · exact tou_pop f bz bt z
/-- a turn, but for the end of the base's row -/
theorem tn_one {N : Nat} (hN : 1000 ≤ N) {E1 : CS → Option (Unit × CS)} {E2 : CS → Option (Int32 × CS)} (hm1 : ∀ σ, Kf (CS.i σ 32) (E1 σ)) (hm2 : ∀ σ, Kf (CS.i σ 32) (E2 σ)) (hE : SXR N 18 E1) (hE2 : SXN N 22 E2) {d : Int32} {B : CS} {b : RS} {t0 n : Nat} {L : List CEL} {S : CS} {s U : RS} {c : CEL} {P : Unit × CS} {Aj : JBA} (hY : YBA Aj U B b) (mA : JBM U Aj) (hU : KU3 U b) (h : STI Aj U d B b t0 S s c L) (nb : L = [] → ¬ S.i 43 = 125 ∧ ¬ S.i 43 = 0 ∧ ¬ S.i 43 = 219 ∧ ¬ S.i 43 = 220) (k : KTN N E1 E2 S c.2.1 P) (g : f_X12_parse_10 N n s = some U) : TOU Aj N d B b t0 P.2 U := by
  obtain ⟨x, hC, tp, ⟨hM, h36⟩, bz, bt, hx, jx⟩ := h
  have ku : KU3 U s := hC.ku3 hU
  have fj : ¬ S.o c.2.1 0 = 305 → ∀ (V : List RVW) (R : CS) (u : RS), JTR Aj U B b (c :: L) S s V R u → JRX Aj U B b V R u := fun n5 V R u h => (h ku (jx.w n5)).x
  have hv := hC.1
  have cb := hC.2.2.2.2.1
  have k9 := tk_is hv (a := 219) (b := 429) (Or.inr ⟨by decide, by decide⟩) (by decide)
  have k0 := tk_is hv (a := 220) (b := 430) (Or.inr ⟨by decide, by decide⟩) (by decide)
  have k5 := tk_is hv (a := 125) (b := 125) (Or.inl ⟨by decide, by decide⟩) (by decide)
  have btL := BTL.at cb L c _ _ _ bt bz hC.2.1
  have wd1 := wid1 (S.o c.2.1 0)
  have n1s : ∀ v : Int32, S.o c.2.1 0 = v → isOne (S.o c.2.1 0) → isOne v := fun v z q => by rw [← z]; exact q
  -- a statement of the list on top
  have lst : MLI c S s → ¬ S.i 43 = 125 → ¬ S.i 43 = 0 → ¬ S.i 43 = 219 → ¬ S.i 43 = 220 → f_X7_statement N E1 E2 S 0 = some P → TOU Aj N d B b t0 P.2 U := fun hL t1 t2 t3 t4 e =>
    tou_outs (fj hL.2.1) bz bt (tn_list hN hm1 hm2 hE hE2 hY hC tp hL h36 bz (T0 := ceT c + wid (S.o c.2.1 0) - 1) (by omega) (by omega) t1 t3 t4 t2 e g)
  cases L with
  | nil =>
    have so := BAZ.srt cb bz
    obtain ⟨t1, t2, t3, t4⟩ := nb rfl
    have no : ¬ isOne (S.o c.2.1 0) := fun q => by
      rcases so with z | z <;> rw [z] at q <;> unfold isOne at q <;> exact absurd q (by decide)
    have n8 : ¬ S.o c.2.1 0 = 218 := by rcases so with z | z <;> rw [z] <;> decide
    have n5 : ¬ S.o c.2.1 0 = 305 := by rcases so with z | z <;> rw [z] <;> decide
    have hL : MLI c S s := by
      rcases hM with z | z | z | z | z
      · exact z
      · exact absurd z.1 no
      · exact absurd z.1 no
      · exact absurd z.1 n8
      · exact absurd z.1 n5
    rcases k with ⟨z, -⟩ | ⟨⟨z, -⟩, -⟩ | ⟨⟨z, -⟩, -⟩ | ⟨-, z, -⟩ | ⟨⟨-, z⟩, -⟩ | ⟨-, -, k⟩
    · exact absurd z no
    · exact absurd z n5
    · exact absurd z n5
    · rcases z with z | z
      · exact absurd z t1
      · exact absurd z t2
    · exact absurd z n8
    · exact lst hL t1 t2 t3 t4 k
  | cons c2 L2 =>
    have hT : t0 ≤ ceT c := BTL.up cb bt bz hC.2.1
    have bz2 : BAZ B b (c2 :: L2) := bz
    have bt2 : BTL B t0 (c2 :: L2) := bt
    have ks : isKS (S.o c.2.1 0) := by
      obtain ⟨m', e', k', g1, g2, g3⟩ := id hC.2.1
      exact (g2 c2 rfl).1.2.2.2.2.2.2.2.2
    rcases k with ⟨one, k⟩ | ⟨⟨z, t⟩, k⟩ | ⟨⟨z, t⟩, k⟩ | ⟨⟨no, n5⟩, t, k⟩ | ⟨⟨no, z8⟩, ⟨t1, t0'⟩, k⟩ | ⟨⟨no, n5, n8⟩, ⟨t1, t0'⟩, k⟩
    · -- one body
      have n8 : ¬ S.o c.2.1 0 = 218 := fun z => absurd (n1s _ z one) (by unfold isOne; decide)
      have n5 : ¬ S.o c.2.1 0 = 305 := fun z => absurd (n1s _ z one) (by unfold isOne; decide)
      rcases hM with z | z | z | z | z
      · exact absurd one z.1
      · rw [hx z] at hC
        exact tou_outs (fj n5) bz bt (tn_body (x := 0) hN hm1 hm2 hE hE2 hY hC tp z bz hT k g)
      · by_cases q : S.o c.2.1 0 = 203 ∧ S.i 43 = 204
        · unfold f_X7_bodyTurn at k
          obtain ⟨-, k⟩ := hf_ite k
          rw [if_neg (by rw [z.2.1]; decide)] at k
          rcases en_if1 hN mA hC tp z h36 q.1 q.2 bz hT (ob_un k) g with w | w
          · exact Or.inr (Or.inl w)
          · exact tou_new (fj n5) bz2 bt2 w
        · rcases tn_end hN hm1 hm2 hE2 mA hC tp z h36 bz hT q k g with w | w
          · exact Or.inl w
          · exact tou_pop (fj n5) bz2 bt2 w
      · exact absurd z.1 n8
      · exact absurd z.1 n5
    · -- catch
      have hG : MGU c S s := by
        rcases hM with y | y | y | y | y
        · exact absurd z y.2.1
        · exact absurd (n1s _ z y.1) (by unfold isOne; decide)
        · exact absurd (n1s _ z y.1) (by unfold isOne; decide)
        · rw [y.1] at z
          exact absurd z (by decide)
        · exact y
      rcases bg_catch hN hC tp hG t bz hT k g with w | w
      · exact Or.inl w
      · exact tou_new (fun V R u h => (h jx).x) bz2 bt2 w
    · -- finally
      have hG : MGU c S s := by
        rcases hM with y | y | y | y | y
        · exact absurd z y.2.1
        · exact absurd (n1s _ z y.1) (by unfold isOne; decide)
        · exact absurd (n1s _ z y.1) (by unfold isOne; decide)
        · rw [y.1] at z
          exact absurd z (by decide)
        · exact y
      rcases bg_fin hN hC tp hG t bz hT k g with w | w
      · exact Or.inl w
      · exact tou_new (fun V R u h => (h jx).x) bz2 bt2 w
    · -- a list's end
      have hL : MLI c S s ∨ MSW c S s := by
        rcases hM with y | y | y | y | y
        · exact Or.inl y
        · exact absurd y.1 no
        · exact absurd y.1 no
        · exact Or.inr y
        · exact absurd y.1 n5
      have sl : S.o c.2.1 0 = 301 ∨ S.o c.2.1 0 = 218 ∨ (S.o c.2.1 0 = 213 ∨ S.o c.2.1 0 = 215) ∨ S.o c.2.1 0 = 212 ∨ S.o c.2.1 0 = 216 := by
        rcases ks with y | (y | y | y | y) | y | y | y
        · exact absurd y no
        · exact Or.inr (Or.inr (Or.inl (Or.inl y)))
        · exact Or.inr (Or.inr (Or.inl (Or.inr y)))
        · exact absurd y n5
        · exact Or.inr (Or.inr (Or.inr (Or.inr y)))
        · exact Or.inl y
        · exact Or.inr (Or.inl y)
        · exact Or.inr (Or.inr (Or.inr (Or.inl y)))
      rcases t with t | t
      · rcases tn_lend hN mA hC tp hL h36 sl t bz hT k g with w | w | w | w
        · exact Or.inl w
        · exact Or.inr (Or.inr (Or.inl w))
        · exact tou_new (fun V R u h => h (jx.w n5)) bz2 bt2 w
        · exact tou_pop (fj n5) bz2 bt2 w
      · have nsw : ¬ S.o c.2.1 0 = 218 → MLI c S s := fun q => hL.resolve_right (fun y => q y.1)
        left
        rcases sl with y | y | (y | y) | y | y
        · exact en_blkF hC (nsw (by rw [y]; decide)) h36 y t k g
        · exact en_swF hC hL h36 y t k g
        · exact en_bkF hC (nsw (by rw [y]; decide)) h36 (Or.inr (Or.inl y)) t k g
        · exact en_bkF hC (nsw (by rw [y]; decide)) h36 (Or.inr (Or.inr (Or.inl y))) t k g
        · exact en_bkF hC (nsw (by rw [y]; decide)) h36 (Or.inl y) t k g
        · exact en_bkF hC (nsw (by rw [y]; decide)) h36 (Or.inr (Or.inr (Or.inr y))) t k g
    · -- a group
      have hL : MLI c S s ∨ MSW c S s := by
        rcases hM with y | y | y | y | y
        · exact Or.inl y
        · exact absurd y.1 no
        · exact absurd y.1 no
        · exact Or.inr y
        · rw [y.1] at z8
          exact absurd z8 (by decide)
      by_cases t9 : S.i 43 = 219
      · rcases gr_case hN hC tp hL h36 z8 t9 bz hT k g with w | w
        · exact Or.inl w
        · exact tou_pop (fj (by rw [z8]; decide)) bz bt w
      by_cases t20 : S.i 43 = 220
      · rcases gr_dflt hN hC tp hL h36 z8 t20 bz hT k g with w | w
        · exact Or.inl w
        · exact tou_pop (fj (by rw [z8]; decide)) bz bt w
      unfold f_X7_groupTurn at k
      rw [e_fnd0 t9, ob_some, if_pos rfl, e_fnd0 t20, ob_some, if_pos rfl] at k
      obtain ⟨-, k⟩ := hf_ite k
      rcases hL with hL | hL
      · have o5 := (hL.2.2.2.2.2 z8).2
        rw [if_neg (by rw [o5]; decide)] at k
        exact lst hL t1 t0' t9 t20 (ob_un k)
      · obtain ⟨-, y65, yts, -, o5⟩ := hL
        rw [if_pos o5] at k
        obtain ⟨m1, e1, k1, m2, e2, k2, cst⟩ := STK.mem _ _ _ _ hC.2.1 c List.mem_cons_self
        have f1 := (cst.2.2.1.2.2.2.2.2.2.2.2.2.2.2.1 z8).1
        exact Or.inl ⟨y_misp (ob_un k), sw_flt hv yts f1 y65 (fun q => t1 (k5.mpr q)) (fun q => t9 (k9.mpr q)) (fun q => t20 (k0.mpr q)) g⟩
    · -- a statement
      have hL : MLI c S s := by
        rcases hM with y | y | y | y | y
        · exact y
        · exact absurd y.1 no
        · exact absurd y.1 no
        · exact absurd y.1 n8
        · exact absurd y.1 n5
      have sl : S.o c.2.1 0 = 301 ∨ S.o c.2.1 0 = 212 ∨ S.o c.2.1 0 = 213 ∨ S.o c.2.1 0 = 215 ∨ S.o c.2.1 0 = 216 := by
        rcases ks with y | (y | y | y | y) | y | y | y
        · exact absurd y no
        · exact Or.inr (Or.inr (Or.inl y))
        · exact Or.inr (Or.inr (Or.inr (Or.inl y)))
        · exact absurd y n5
        · exact Or.inr (Or.inr (Or.inr (Or.inr y)))
        · exact Or.inl y
        · exact absurd y n8
        · exact Or.inr (Or.inl y)
      by_cases t9 : S.i 43 = 219
      · exact Or.inl ⟨y_stF (Or.inl (Or.inr (Or.inl t9))) k, li_flt hC hL h36 sl (Or.inl t9) g⟩
      by_cases t20 : S.i 43 = 220
      · exact Or.inl ⟨y_stF (Or.inl (Or.inr (Or.inr t20))) k, li_flt hC hL h36 sl (Or.inr t20) g⟩
      exact lst hL t1 t0' t9 t20 k
