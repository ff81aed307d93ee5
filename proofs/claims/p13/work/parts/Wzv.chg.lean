section
/-! both readers: a name gets a value, in a head -/
theorem f_fnd {N : Nat} {S S' : CS} {l : Int64} (e50 : S'.i 50 = S.i 50) (eb : S'.b 47 = S.b 47) : ∀ (n : Nat) (x : Int32) (P : Int32 × CS), f_X4_find_2 N n S' l x = some P → f_X4_find_2 N n S l x = some (P.1, S) ∧ P.2 = S'
  | 0, _, _, e => by cases e
  | n + 1, x, P, e => by
    have e' : b_X4_find_2 N (f_X4_find_2 N n) S' l x = some P := e
    show b_X4_find_2 N (f_X4_find_2 N n) S l x = some (P.1, S) ∧ P.2 = S'
    unfold b_X4_find_2 f_X4_find_38 at e' ⊢
    rw [e50, eb] at e'
    by_cases c : S.i 50 ≤ x
    · rw [if_pos c] at e' ⊢
      cases e'
      exact ⟨rfl, rfl⟩
    · rw [if_neg c] at e' ⊢
      by_cases c2 : (128 : Int32) ≤ x
      · rw [if_pos c2] at e' ⊢
        cases e'
        exact ⟨rfl, rfl⟩
      · rw [if_neg c2] at e' ⊢
        obtain ⟨hib, e'⟩ := hf_ite e'
        rw [if_pos hib]
        by_cases d : lg_cmp (S.b 47 x.toNatClampNeg) l = 0
        · rw [if_pos d] at e' ⊢
          cases e'
          exact ⟨rfl, rfl⟩
        · rw [if_neg d] at e' ⊢
          exact f_fnd e50 eb n (x + 1) P e'
/-- found before the token behind it is read, in the reference -/
theorem y_got2 {N : Nat} {d : Int32} {S S' : CS} {s : RS} {l : Int64} {w : Int32} {P : Int32 × CS} {Q : Int32 × RS} (h : ENV d S s) (hp : pj S' = pj S) (e : f_X4_find N S' l = some P) (g : f_X12_got N s l w = some Q) : P.2 = S' ∧ ((P.1 < 0 ∧ ¬ Q.2.i 15 = 0) ∨ (¬ P.1 < 0 ∧ ∃ C : Int32 × CS, f_X4_isCaught N S' P.1 = some C ∧ C.2 = S' ∧ ((C.1 = 0 ∧ Q.2 = s ∧ ∃ k : Nat, P.1.toInt = (k : Int) ∧ (k : Int) < (s.i 38).toInt ∧ (S.a 49 k).toInt < 0 ∧ Q.1 = s.a 40 k) ∨ (¬ C.1 = 0 ∧ ¬ Q.2.i 15 = 0)))) := by
  obtain ⟨-, -, -, -, -, -, -, -, -, -, -, -, -, i50, -, -, -, -, -, -, -, a49, -, -, -, -, eb, -⟩ := pj_eq hp
  have e' : f_X4_find_2 N N S' l 0 = some P := e
  obtain ⟨e2, e3⟩ := f_fnd i50 (by rw [eb]) N 0 P e'
  obtain ⟨-, z2⟩ := y_got (P := (P.1, S)) h e2 g
  refine ⟨e3, ?_⟩
  rcases z2 with z | ⟨z1, C, z2, z3, z4⟩
  · exact Or.inl z
  · have z2' : (if (gAt (S.a 49) 128 P.1) < 0 then some ((0 : Int32), S) else some (1, S)) = some C := z2
    refine Or.inr ⟨z1, (C.1, S'), ?_, rfl, z4⟩
    unfold f_X4_isCaught
    rw [a49]
    by_cases c : gAt (S.a 49) 128 P.1 < 0
    · rw [if_pos c] at z2' ⊢
      cases z2'
      rfl
    · rw [if_neg c] at z2' ⊢
      cases z2'
      rfl
/-- what the class does where a name stands in a head -/
theorem ch_cls {N : Nat} {E1 : CS → Option (Unit × CS)} {E2 : CS → Option (Int32 × CS)} {X : CS} {l : Int64} {pl mi : Int32} {P : Int32 × CS} {W : Unit × CS} (eP : f_X4_find N X l = some P) (hP : P.2 = X) (e : f_X7_change N E1 E2 X l pl mi = some W) : (¬ W.2.i 32 = 0 ∧ (P.1 < 0 ∨ (∀ C : Int32 × CS, f_X4_isCaught N X P.1 = some C → ¬ C.1 = 0) ∨ ¬ (X.i 43 = 61 ∨ (¬ mi = 0 ∧ X.i 43 = 135)))) ∨ (¬ P.1 < 0 ∧ (∀ C : Int32 × CS, f_X4_isCaught N X P.1 = some C → C.1 = 0) ∧ ((X.i 43 = 61 ∧ ∃ (v x a : Unit × CS), f_X9_advance N X = some v ∧ f_X1_expression N E1 E2 v.2 = some x ∧ f_X0_add N x.2 2 (gAt (x.2.a 48) 128 P.1) = some a ∧ W.2 = a.2) ∨ (¬ mi = 0 ∧ X.i 43 = 135 ∧ ∃ (v a : Unit × CS), f_X9_advance N X = some v ∧ f_X0_add N v.2 3 (gAt (v.2.a 48) 128 P.1) = some a ∧ W.2 = a.2))) := by
  have f63 : ∀ Y : CS, f_X7_change_63 N E1 E2 Y pl = some W → ¬ W.2.i 32 = 0 := fun Y h => by
    unfold f_X7_change_63 at h
    obtain ⟨f, ef, h⟩ := hf_bind h
    cases h
    exact y_fail (by decide) ef
  have g0 : f_X7_change_41 N E1 E2 X pl P.1 0 = some W → ¬ W.2.i 32 = 0 := fun h => by
    unfold f_X7_change_41 at h
    by_cases c : P.1 < 0
    · rw [if_pos c] at h
      exact f63 _ h
    · rw [if_neg c, if_pos rfl] at h
      unfold f_X7_change_72 at h
      rw [if_pos rfl] at h
      obtain ⟨x, ex, h⟩ := hf_bind h
      cases h
      exact y_misp ex
  have g1 : f_X7_change_41 N E1 E2 X pl P.1 1 = some W → (X.i 43 = 61 ∨ (¬ mi = 0 ∧ X.i 43 = 135)) → (¬ W.2.i 32 = 0 ∧ (P.1 < 0 ∨ (∀ C : Int32 × CS, f_X4_isCaught N X P.1 = some C → ¬ C.1 = 0) ∨ ¬ (X.i 43 = 61 ∨ (¬ mi = 0 ∧ X.i 43 = 135)))) ∨ (¬ P.1 < 0 ∧ (∀ C : Int32 × CS, f_X4_isCaught N X P.1 = some C → C.1 = 0) ∧ ((X.i 43 = 61 ∧ ∃ (v x a : Unit × CS), f_X9_advance N X = some v ∧ f_X1_expression N E1 E2 v.2 = some x ∧ f_X0_add N x.2 2 (gAt (x.2.a 48) 128 P.1) = some a ∧ W.2 = a.2) ∨ (¬ mi = 0 ∧ X.i 43 = 135 ∧ ∃ (v a : Unit × CS), f_X9_advance N X = some v ∧ f_X0_add N v.2 3 (gAt (v.2.a 48) 128 P.1) = some a ∧ W.2 = a.2))) := fun h hg => by
    unfold f_X7_change_41 at h
    by_cases c : P.1 < 0
    · rw [if_pos c] at h
      exact Or.inl ⟨f63 _ h, Or.inl c⟩
    · rw [if_neg c, if_neg n10] at h
      obtain ⟨C, eC, h⟩ := hf_bind h
      have C2 : C.2 = X := by
        unfold f_X4_isCaught at eC
        by_cases z : gAt (X.a 49) 128 P.1 < 0
        · rw [if_pos z] at eC
          cases eC
          rfl
        · rw [if_neg z] at eC
          cases eC
          rfl
      by_cases C0 : C.1 = 0
      · rw [if_pos C0, C2] at h
        refine Or.inr ⟨c, fun C' eC' => ?_, ?_⟩
        · rw [eC] at eC'
          cases eC'
          exact C0
        unfold f_X7_change_72 at h
        rw [if_neg n10] at h
        by_cases c135 : X.i 43 = 135
        · obtain ⟨r, er, h⟩ := hf_bind h
          obtain ⟨v, ev, hr⟩ := e_skip1 c135 er
          rw [hr, if_neg n10] at h
          unfold f_X4_cellOf at h
          rw [ob_some] at h
          obtain ⟨a, ea, h⟩ := hf_bind h
          cases h
          refine Or.inr ⟨?_, c135, v, a, ev, ea, rfl⟩
          rcases hg with z | z
          · rw [c135] at z
            exact absurd z (by decide)
          · exact z.1
        · have c61 : X.i 43 = 61 := hg.resolve_right (fun z => c135 z.2)
          rw [e_skip0 c135, ob_some] at h
          have h' : ((f_X9_advance N X).bind fun p22 => (f_X1_expression N E1 E2 p22.2).bind fun p26 => (f_X4_cellOf N p26.2 P.1).bind fun p30 => (f_X0_add N p30.2 2 p30.1).bind fun p34 => some ((), p34.2)) = some W := (if_pos rfl).symm.trans h
          obtain ⟨v, ev, h'⟩ := hf_bind h'
          obtain ⟨x, ex, h'⟩ := hf_bind h'
          unfold f_X4_cellOf at h'
          rw [ob_some] at h'
          obtain ⟨a, ea, h'⟩ := hf_bind h'
          cases h'
          exact Or.inl ⟨c61, v, x, a, ev, ex, ea, rfl⟩
      · rw [if_neg C0] at h
        refine Or.inl ⟨f63 _ h, Or.inr (Or.inl (fun C' eC' => ?_))⟩
        rw [eC] at eC'
        cases eC'
        exact C0
  unfold f_X7_change at e
  rw [eP, ob_some, hP] at e
  by_cases c61 : X.i 43 = 61
  · rw [e_fnd1 c61, ob_some, if_neg n10] at e
    exact g1 e (Or.inl c61)
  · rw [e_fnd0 c61, ob_some, if_pos rfl] at e
    by_cases m0 : mi = 0
    · rw [if_pos m0] at e
      exact Or.inl ⟨g0 e, Or.inr (Or.inr (fun z => z.elim c61 (fun y => y.1 m0)))⟩
    · rw [if_neg m0] at e
      by_cases c135 : X.i 43 = 135
      · rw [e_fnd1 c135, ob_some, if_neg n10] at e
        exact g1 e (Or.inr ⟨m0, c135⟩)
      · rw [e_fnd0 c135, ob_some, if_pos rfl] at e
        exact Or.inl ⟨g0 e, Or.inr (Or.inr (fun z => z.elim c61 (fun y => c135 y.2)))⟩
/-- no sign that closes -/
theorem y_cl0 {N : Nat} {S : CS} {c : Int32} {R : Unit × CS} (k : ¬ S.i 43 = c) (e : f_X1_close N S c = some R) : ¬ R.2.i 32 = 0 := by
  unfold f_X1_close f_X1_close_22 at e
  rw [e_fnd0 k, ob_some, if_pos rfl] at e
  obtain ⟨p, ep, e⟩ := hf_bind e
  cases e
  show ¬ p.2.i 32 = 0
  exact y_misp ep
theorem can_f {N : Nat} {s : RS} {x : Int32} (h : ¬ s.i 15 = 0) : f_X12_can N s x = some (0, s) := by
  rw [e_can, if_pos h]
end
section
/-! both readers: for, from behind its condition -/
/-- at the test's end: the class has its GOTO to lay, the reference JZ and JMP -/
def KF5 (U : RS) (x5 x1 x3 x4 : Int32) (qt p q : Nat) : JKT := fun FC SF nm X ω j Z => SF.a 15 p = 30 → SF.a 16 p = x3 → p < 1200 → U.a 21 q = 13 → U.a 21 (q + 1) = 15 → (((q + 1 : Nat) : Int) < (U.i 20).toInt ∧ (U.i 20).toInt ≤ 3000) → HC0 nm j.h j.c → 1300 ≤ ω → (¬ x5 = 1 → PRN FC SF U nm X x4 q ω j) → PRF FC SF U nm X p x3 (q + 1) ω (j.up 1264) → Z ∧ TG1 FC SF U nm X x1 qt ω j
theorem nm_fr {d d' : Int32} {S R : CS} {s u : RS} {k : Nat} (h : ENV d S s) (g : ENV d' R u) (tb : TBK s u) (hk : (k : Int) < (s.i 38).toInt) (h49 : (S.a 49 k).toInt < 0) : (R.a 49 k).toInt < 0 := by
  have z1 := (h.2.1.2.2.1 k hk).2
  have z2 := (g.2.1.2.2.1 k (by rw [tb.1.1.2.2.2.1]; exact hk)).2
  rw [(tb.1.2.1 k hk).2.2] at z2
  by_cases q : 0 ≤ (R.a 49 k).toInt
  · have := z1.mpr (z2.mp q)
    omega
  · omega
set_option maxHeartbeats 4000000 in
theorem fo_five {N : Nat} (hN : 1000 ≤ N) {E1 : CS → Option (Unit × CS)} {E2 : CS → Option (Int32 × CS)} (hm1 : ∀ σ, Kf (CS.i σ 32) (E1 σ)) (hm2 : ∀ σ, Kf (CS.i σ 32) (E2 σ)) (hE : SXR N 18 E1) {d : Int32} {B : CS} {b : RS} {t0 T n : Nat} {L : List CEL} {x : Int} {S P : CS} {s q U : RS} {c : CEL} {W : Option Nat × CS} {R : Unit × CS} {x1 x2 x3 x4 x5 : Int32} {A : JBA} (hC : COR d B b t0 (c :: L) x S s) (q1 : TOP S s c) (q2 : LOW S s c) (q3 : T = ceT c + wid (S.o c.2.1 0)) (hT : t0 ≤ T) (hm : NMC c S) (hx : S.o c.2.1 0 = 303 → x = -3) (hB : BOT b S (c :: L)) (w : WAZ d T 3 7 1 (-2) 3 S s P q) (k64 : q.a 64 T = 12) (k65 : q.a 65 T = 5) (k71 : q.a 71 T = S.i 50) (k72 : q.a 72 T = x5) (n5 : NT5 x2 ∧ NT5 x4) (k66 : 0 ≤ (q.a 66 T).toInt) (jg : KU3 U s → JRW A U B b (vws S s (c :: L)) S s → JRG A U B b (vws S s (c :: L)) s [tv x4, tv x3, tv x2] (KF5 U x5 x1 x3 x4 (q.a 66 T).toNatClampNeg (pcC P) (pcR q)) (-2) 2 P q) (e : f_X7_forHead_76 N E1 E2 P x1 x2 x3 x4 x5 = some W) (e2 : f_X7_beginFor_85 N E1 E2 W.2 (S.i 50) W.1 = some R) (g : f_X12_parse_10 N n q = some U) : (¬ R.2.i 32 = 0 ∧ ¬ U.i 15 = 0) ∨ DMD d B R.2 U ∨ ∃ (m : Nat) (u : RS), f_X12_parse_10 N m u = some U ∧ NEW d B b t0 c L R.2 u (JTR A U B b (c :: L) S s) := by
  have hvS := hC.1
  have fW : ¬ W.2.i 32 = 0 → ¬ R.2.i 32 = 0 := fun z => by
    rw [kF_X7_beginFor_85 N E1 E2 hm1 hm2 W.2 (S.i 50) W.1 R e2 z]
    exact z
  -- the class, taken apart
  unfold f_X7_forHead_76 at e
  obtain ⟨p30, e30, e⟩ := hf_bind e
  obtain ⟨p34, e34, e⟩ := hf_bind e
  obtain ⟨p38, e38, e⟩ := hf_bind e
  obtain ⟨p42, e42, e⟩ := hf_bind e
  have f113 : ∀ Y : CS, f_X7_forHead_113 N E1 E2 Y x1 x2 x3 x4 x5 = some W → ¬ Y.i 32 = 0 → ¬ R.2.i 32 = 0 := fun Y h z => fW (by rw [kF_X7_forHead_113 N E1 E2 hm1 hm2 Y x1 x2 x3 x4 x5 W h z]; exact z)
  have cls : (¬ p38.2.i 43 = 2 ∧ f_X7_forHead_113 N E1 E2 p38.2 x1 x2 x3 x4 x5 = some W) ∨ (p38.2.i 43 = 2 ∧ ∃ p71 : Unit × CS, f_X7_changeHere N E1 E2 p38.2 1 = some p71 ∧ f_X7_forHead_113 N E1 E2 p71.2 x1 x2 x3 x4 x5 = some W) := by
    by_cases c2 : p38.2.i 43 = 2
    · rw [e_fnd1 c2] at e42
      cases e42
      rw [if_neg n10] at e
      obtain ⟨p71, e71, e⟩ := hf_bind e
      exact Or.inr ⟨c2, p71, e71, e⟩
    · rw [e_fnd0 c2] at e42
      cases e42
      rw [if_pos rfl] at e
      exact Or.inl ⟨c2, e⟩
  have f38 : ¬ p38.2.i 32 = 0 → ¬ R.2.i 32 = 0 := fun z => by
    rcases cls with ⟨-, h⟩ | ⟨-, p71, h1, h2⟩
    · exact f113 _ h z
    · refine f113 _ h2 ?_
      rw [kF_X7_changeHere N E1 E2 hm1 hm2 p38.2 1 p71 h1 z]
      exact z
  -- the reference
  obtain ⟨m2, V, hV, g2⟩ := rl_12 g w.2.1 w.1.1.2.1 k64
  unfold f_X12_fors at hV
  obtain ⟨-, hV⟩ := hf_ite hV
  rw [tp_nat w.2.1, if_neg (show ¬ q.a 65 T = 0 by rw [k65]; decide), if_neg (show ¬ q.a 65 T = 1 by rw [k65]; decide), if_neg (show ¬ q.a 65 T = 2 by rw [k65]; decide), if_neg (show ¬ q.a 65 T = 3 by rw [k65]; decide), if_neg (show ¬ q.a 65 T = 4 by rw [k65]; decide), if_pos k65, ob_id] at hV
  unfold f_X12_forBehind f_X12_forBehind_59 at hV
  obtain ⟨nd, hnd, hV⟩ := hf_bind hV
  obtain ⟨em, hem, hV⟩ := hf_bind hV
  obtain ⟨hib, hV⟩ := hf_ite hV
  rw [tp_nat w.2.1] at hV
  obtain ⟨em2, hem2, hV⟩ := hf_bind hV
  have lo := w.lo
  have ph0 := hvS.2.2.2.2.2.2.2.1
  rcases (w.ad e30).nd hN (c := 59) (e := 59) (Or.inl ⟨by decide, by decide⟩) (by decide) (by decide) (by decide) e34 hnd with ⟨o1, o2, o3⟩ | ⟨o1, w2, f2⟩
  · have z3 : ¬ em.2.i 15 = 0 := krf_f_X12_emit N nd.2 13 0 em hem o3
    have z6 : ¬ em2.2.i 15 = 0 := krf_f_X12_emit N _ 15 0 em2 hem2 z3
    rw [if_neg z6] at hV
    obtain ⟨-, hV⟩ := hf_ite hV
    cases hV
    exact Or.inl ⟨f38 (by rw [kF_X0_aim N p34.2 x2 p38 e38 o2]; exact o2), u_flt g2 z6⟩
  have lo2 := w2.lo
  obtain ⟨w3, f3, e20, n20, -⟩ := w2.em (by omega) hem
  have w3' := w3.sa (j := 67) (v := em.1) ⟨by omega, by omega⟩
  have lo3 := w3'.lo
  obtain ⟨w4, f4, e20', n20', -⟩ := w3'.em (by omega) hem2
  have w5 : WAZ d T 4 8 1 (-4) 4 S s p38.2 (RS.setA (RS.setA em2.2 68 T em2.1) 70 T (em2.2.i 20)) := (((w4.sa (j := 68) (v := em2.1) ⟨by omega, by omega⟩).sa (j := 70) (v := em2.2.i 20) ⟨by omega, by omega⟩).ai e38).nu (by omega) (by omega) (by omega) (by omega) (by omega)
  obtain ⟨ft2, -⟩ := FRB.ft (T := T) f2
  obtain ⟨ft3, -⟩ := FRB.ft (T := T) f3
  obtain ⟨ft4, -⟩ := FRB.ft (T := T) f4
  have ft23 := ft2.tr ft3
  have v64 : em2.2.a 64 T = 12 := by
    rw [ft4.1]
    show em.2.a 64 T = 12
    rw [ft23.1]
    exact k64
  have v67 : em2.2.a 67 T = em.1 := by
    rw [ft4.2.2.1]
    exact setA_at
  have v71 : em2.2.a 71 T = S.i 50 := by
    rw [ft4.2.2.2.2.2.2.1]
    show em.2.a 71 T = S.i 50
    rw [ft23.2.2.2.2.2.2.1]
    exact k71
  have v72 : em2.2.a 72 T = x5 := by
    rw [ft4.2.2.2.2.2.2.2.1]
    show em.2.a 72 T = x5
    rw [ft23.2.2.2.2.2.2.2.1]
    exact k72
  have n20'' : (em2.2.i 20).toInt = (nd.2.i 20).toInt + 2 := by
    rw [n20']
    show (em.2.i 20).toInt + 1 = _
    omega
  have e20'' : em2.1.toInt = (nd.2.i 20).toInt + 1 := by
    rw [e20']
    show (em.2.i 20).toInt = _
    exact n20
  obtain ⟨Y, hY⟩ : ∃ Y, Y = RS.setA (RS.setA em2.2 68 T em2.1) 70 T (em2.2.i 20) := ⟨_, rfl⟩
  have y64 : Y.a 64 T = 12 := by rw [hY]; exact v64
  have y67 : Y.a 67 T = em.1 := by rw [hY]; exact v67
  have y68 : Y.a 68 T = em2.1 := by
    rw [hY]
    show (RS.setA em2.2 68 T em2.1).a 68 T = em2.1
    exact setA_at
  have y71 : Y.a 71 T = S.i 50 := by rw [hY]; exact v71
  have y72 : Y.a 72 T = x5 := by rw [hY]; exact v72
  have yi : Y.i = em2.2.i := by rw [hY]; rfl
  have y66 : Y.a 66 T = q.a 66 T := by
    rw [hY]
    show em2.2.a 66 T = q.a 66 T
    rw [ft4.2.1]
    show em.2.a 66 T = q.a 66 T
    exact ft23.2.1
  have y70 : Y.a 70 T = em2.2.i 20 := by rw [hY]; exact setA_at
  have qY : qe Y = qe em2.2 := by rw [hY]; rfl
  have nY : NMV em2.2 Y := by rw [hY]; exact ⟨rfl, fun _ _ => rfl⟩
  have h20 := w.1.p20
  have jY : KU3 U s → JRW A U B b (vws S s (c :: L)) S s → JRG A U B b (vws S s (c :: L)) s [hv x2, sv em2.1, sv em.1, tv x4, tv x3] (JAN (JAN (KF6 U x5 x1 x3 x4 (pcC P) em2.1.toNatClampNeg em.1.toNatClampNeg (q.a 66 T).toNatClampNeg) (JLT (pcC P) (pcC p38.2))) (KF7 U x2 (em2.2.i 20) (pcC p38.2) (pcR Y))) (-2) 1 p38.2 Y := fun ku jw => by
    have g44 : (P.i 44).toInt = (q.i 11).toInt := by rw [w.1.p44.1]
    have g6 := (i11_hi w.1).2
    have g44' : (p34.2.i 44).toInt = (nd.2.i 11).toInt := by rw [w2.1.p44.1]
    have g6' := (i11_hi w2.1).2
    have nd20 := w2.1.p20
    have em20 := w3'.1.p20
    have em20' : ((RS.setA em.2 67 T em.1).i 20).toInt = (em.2.i 20).toInt := rfl
    have j1 := (jg ku jw).add e30 (by omega) (by omega)
    have j2 := j1.ned hN (w.ad e30).1 (c := 59) (c' := 59) (Or.inl ⟨by decide, by decide⟩) (by decide) (by decide) (by decide) e34 hnd o1
    have j3 := j2.ems hem ⟨nd20.1, by omega⟩
    have j4 := j3.se (u := RS.setA em.2 67 T em.1) rfl ⟨rfl, fun _ _ => rfl⟩
    have j5 := j4.ems hem2 ⟨em20.1, by omega⟩
    have j6 := JRG.aih (W1 := [sv em2.1, sv em.1, tv x4, tv x3]) (W2 := []) (K' := fun FC SF nm X ω j Z => (cTg SF x2).toInt = ((pcC p34.2 : Nat) : Int) ∧ (U.a 21 (pcR (RS.setA em.2 67 T em.1)) = 15 ∧ em2.1.toNatClampNeg = pcR (RS.setA em.2 67 T em.1) ∧ U.a 23 (pcR (RS.setA em.2 67 T em.1)) = 0 ∧ (((pcR (RS.setA em.2 67 T em.1) : Nat) : Int) < (U.i 20).toInt ∧ (U.i 20).toInt ≤ 3000) ∧ pcR em2.2 = pcR (RS.setA em.2 67 T em.1) + 1) ∧ (U.a 21 (pcR nd.2) = 13 ∧ em.1.toNatClampNeg = pcR nd.2 ∧ U.a 23 (pcR nd.2) = 0 ∧ (((pcR nd.2 : Nat) : Int) < (U.i 20).toInt ∧ (U.i 20).toInt ≤ 3000) ∧ pcR em.2 = pcR nd.2 + 1) ∧ (SF.a 15 (pcC P) = 30 ∧ SF.a 16 (pcC P) = x3 ∧ pcC P < 1200 ∧ pcC p30.2 = pcC P + 1) ∧ KF5 U x5 x1 x3 x4 (q.a 66 T).toNatClampNeg (pcC P) (pcR q) FC SF nm X ω j Z) j5 e38 (by omega) (by omega) (fun FC SF nm X ω j Z h k => ⟨h, k⟩)
    have j7 := j6.se qY nY
    have pn : pcR nd.2 = pcR q := pcR.qe (kre_f_X12_need N q 59 nd hnd)
    have i38 : p38.2.i 20 = p34.2.i 20 := by
      unfold f_X0_aim at e38
      cases e38
      rfl
    have pc38 : pcC p38.2 = pcC p34.2 := by unfold pcC; rw [i38]
    have prY : pcR Y = pcR em2.2 := pcR.qe qY
    have em2n := w5.1.p20
    rw [← hY, yi] at em2n
    refine j7.imp (by omega) (by omega) (fun FC SF nm X ω j Z hc hh tyc tl hω r12 k => ?_)
    obtain ⟨ct, ⟨u1, u2, u3, u4, u5⟩, ⟨v1, v2, v3, v4, v5⟩, ⟨s1, s2, s3, s4⟩, k5⟩ := k
    have pe1 : pcR (RS.setA em.2 67 T em.1) = pcR q + 1 := by
      show pcR em.2 = pcR q + 1
      rw [v5, pn]
    rw [pe1] at u1 u2 u4
    rw [pn] at v1 v2
    have pe30 : pcC p34.2 = pcC p30.2 := pcC.pe (ke_X1_expect N p30.2 59 p34 e34)
    refine ⟨⟨fun r4 r3 => ?_, (by show pcC P < pcC p38.2; omega)⟩, fun gu => ⟨pcC p38.2, pcR Y, by rw [pc38]; exact ct, by rw [prY]; exact (Int.toNat_of_nonneg em2n.1).symm, by unfold pcC; omega, ?_⟩⟩
    · rw [v2] at r4
      rw [u2] at r3
      exact k5 s1 s2 s3 v1 u1 u4 hc hω r4 r3
    · have z := gu 5
      have e9 : ω + (j.up 1264).l + 1264 - pcC p38.2 = ω + j.l + 2528 - pcC p38.2 := by
        show ω + (j.l + 1264) + 1264 - pcC p38.2 = _
        omega
      rw [e9]
      exact z
  rw [← hY] at hV w5
  clear hY
  rw [← yi] at hV
  have i41 := tk_is w5.1 (a := 41) (b := 41) (Or.inl ⟨by decide, by decide⟩) (by decide)
  have i2 := tk_is w5.1 (a := 2) (b := 2) (Or.inl ⟨by decide, by decide⟩) (by decide)
  have Y20 : (Y.i 20).toInt = (nd.2.i 20).toInt + 2 := by rw [yi]; exact n20''
  rw [if_pos w5.1.1.2.1] at hV
  by_cases c41 : Y.i 10 = 41
  · -- no update
    rw [if_pos c41] at hV
    obtain ⟨-, hV⟩ := hf_ite hV
    cases hV
    have k41 := i41.mpr c41
    rcases cls with ⟨-, h⟩ | ⟨c2, -⟩
    · exact fo_seven hN hC q1 q2 q3 hT hm hx hB (w5.sa (j := 65) (v := 7) ⟨by omega, by omega⟩) y64 setA_at y71 y72 ⟨by show (s.i 20).toInt ≤ (Y.a 67 T).toInt; rw [y67, e20]; omega, by show (Y.a 67 T).toInt < (Y.i 20).toInt; rw [y67, e20]; omega⟩ (by show (s.i 20).toInt ≤ (Y.a 68 T).toInt; rw [y68]; omega) n5 (by show 0 ≤ (Y.a 70 T).toInt; rw [y70]; have z := w5.1.p20.1; rw [yi] at z; exact z) ⟨by show 0 ≤ (Y.a 66 T).toInt; rw [y66]; exact k66, by show (Y.a 67 T).toInt < (Y.a 68 T).toInt; rw [y67, y68, e20]; omega⟩ (fun ku jw => by
      have z := (jY ku jw).se (u := RS.setA Y 65 T 7) rfl ⟨rfl, fun _ _ => rfl⟩
      show JRG A U B b (vws S s (c :: L)) s [hv x2, sv (Y.a 68 T), sv (Y.a 67 T), tv x4, tv x3] (JAN (JAN (KF6 U x5 x1 x3 x4 (pcC P) (Y.a 68 T).toNatClampNeg (Y.a 67 T).toNatClampNeg (Y.a 66 T).toNatClampNeg) (JLT (pcC P) (pcC p38.2))) (KF7 U x2 (Y.a 70 T) (pcC p38.2) (pcR (RS.setA Y 65 T 7)))) (-2) 1 p38.2 (RS.setA Y 65 T 7)
      rw [y68, y67, y66, y70]
      exact z) h e2 g2
    · rw [k41] at c2
      exact absurd c2 (by decide)
  rw [if_neg c41] at hV
  by_cases c2 : Y.i 10 = 2
  · rw [if_pos c2, y_can1 w5.1.1.2.1 (by rw [c2]; decide), ob_some, if_neg n10] at hV
    rcases cls with ⟨n2, -⟩ | ⟨-, p71, h1, h2⟩
    · exact absurd (i2.mpr c2) n2
    have k2 := i2.mpr c2
    have lq : p38.2.l = Y.l := w5.1.1.2.2.2.1.2.2.2.2.1 k2
    unfold f_X7_changeHere at h1
    obtain ⟨av, eav, h1⟩ := hf_bind h1
    obtain ⟨ch, ech, h1⟩ := hf_bind h1
    cases h1
    have h2' : f_X7_forHead_113 N E1 E2 ch.2 x1 x2 x3 x4 x5 = some W := h2
    have hV' : f_X12_forBehind_89 N Y (q.i 63) = some V := hV
    unfold f_X12_forBehind_89 at hV'
    obtain ⟨Q, hQ, hV'⟩ := hf_bind hV'
    obtain ⟨-, hV'⟩ := hf_ite hV'
    rw [tp_nat w.2.1] at hV'
    obtain ⟨nx, hnx, hV'⟩ := hf_bind hV'
    have ech0 := ech
    unfold f_X7_change at ech0
    obtain ⟨F, eF, -⟩ := hf_bind ech0
    have eF' : f_X4_find N av.2 Y.l = some F := by rw [← lq]; exact eF
    obtain ⟨F2, zz⟩ := y_got2 w5.1 (kc_X9_advance N p38.2 av eav) eF' hQ
    have cc := ch_cls eF F2 ech
    -- the reference's fault at the name
    have bad : ¬ Q.2.i 15 = 0 → ¬ U.i 15 = 0 := fun z => by
      have z1 : ¬ nx.i 15 = 0 := krf_f_X12_next N _ nx hnx (show ¬ (RS.setA Q.2 73 T Q.1).i 15 = 0 from z)
      refine u_flt g2 ?_
      by_cases d1 : nx.i 10 = 61
      · rw [if_pos d1, can_f z1, ob_some, if_pos rfl] at hV'
        cases hV'
        exact z1
      · rw [if_neg d1] at hV'
        by_cases d2 : nx.i 10 = 307
        · rw [if_pos d2, can_f z1, ob_some, if_pos rfl] at hV'
          cases hV'
          exact z1
        · rw [if_neg d2, can_f z1, ob_some, if_pos rfl] at hV'
          cases hV'
          exact z1
    rcases zz with ⟨y1, y2⟩ | ⟨y1, C, y2, y3, y4⟩
    · rcases cc with ⟨r1, -⟩ | ⟨r1, -⟩
      · exact Or.inl ⟨f113 _ h2' r1, bad y2⟩
      · exact absurd y1 r1
    rcases y4 with ⟨C0, Q2, kx, kx1, kx2, kx3, kx4⟩ | ⟨C1, Q15⟩
    · rw [Q2] at hnx
      have w6 := w5.sa (j := 73) (v := Q.1) ⟨by omega, by omega⟩
      obtain ⟨w7, f7⟩ := w6.nx hN (by rw [k2]; decide) eav hnx
      obtain ⟨ft7, -⟩ := FRB.ft (T := T) f7
      have i61 := tk_is w7.1 (a := 61) (b := 61) (Or.inl ⟨by decide, by decide⟩) (by decide)
      have i307 := tk_is w7.1 (a := 135) (b := 307) (Or.inl ⟨by decide, by decide⟩) (by decide)
      have nx64 : nx.a 64 T = 12 := ft7.1.trans y64
      have nx67 : nx.a 67 T = em.1 := ft7.2.2.1.trans y67
      have nx68 : nx.a 68 T = em2.1 := ft7.2.2.2.1.trans y68
      have nx71 : nx.a 71 T = S.i 50 := ft7.2.2.2.2.2.2.1.trans y71
      have nx72 : nx.a 72 T = x5 := ft7.2.2.2.2.2.2.2.1.trans y72
      have nx66 : nx.a 66 T = q.a 66 T := ft7.2.1.trans y66
      have nx70 : nx.a 70 T = em2.2.i 20 := ft7.2.2.2.2.2.1.trans y70
      have nx73 : nx.a 73 T = Q.1 := ft7.2.2.2.2.2.2.2.2.trans setA_at
      have tb7 : TBK (RS.setA Y 73 T Q.1) nx := (y_nx hN w6.1 w6.2.1 (by rw [k2]; decide) eav hnx).2.2.2.1
      have n49 : (av.2.a 49 kx).toInt < 0 := nm_fr w6.1 w7.1 tb7 kx2 kx3
      have n40 : nx.a 40 kx = Q.1 := ((tb7.1.2.1 kx kx2).2.1).trans kx4.symm
      have n38 : nx.i 38 = Y.i 38 := tb7.1.1.2.2.2.1
      have jN : KU3 U s → JRW A U B b (vws S s (c :: L)) S s → JRG A U B b (vws S s (c :: L)) s [hv x2, sv em2.1, sv em.1, tv x4, tv x3] (JAN (JAN (KF6 U x5 x1 x3 x4 (pcC P) em2.1.toNatClampNeg em.1.toNatClampNeg (q.a 66 T).toNatClampNeg) (JLT (pcC P) (pcC p38.2))) (KF7 U x2 (em2.2.i 20) (pcC p38.2) (pcR Y))) (-3) 0 av.2 nx := fun ku jw => ((jY ku jw).se (u := RS.setA Y 73 T Q.1) rfl ⟨rfl, fun _ _ => rfl⟩).adv hN w6.1 (by rw [k2]; decide) eav hnx
      have pcN : pcC av.2 = pcC p38.2 := pcC.pe (ke_X9_advance N p38.2 av eav)
      have prN : pcR nx = pcR (RS.setA Y 73 T Q.1) := pcR.qe (kre_f_X12_next N (RS.setA Y 73 T Q.1) nx hnx)
      have hk8 := (nms_hi w5.1).2
      have lo7 := w7.lo
      rcases cc with ⟨r1, r2⟩ | ⟨-, -, r3⟩
      · have ng : ¬ (av.2.i 43 = 61 ∨ (¬ (1 : Int32) = 0 ∧ av.2.i 43 = 135)) := by
          rcases r2 with r | r | r
          · exact absurd r y1
          · exact absurd C0 (r C y2)
          · exact r
        have d1 : ¬ nx.i 10 = 61 := fun z => ng (Or.inl (i61.mpr z))
        have d2 : ¬ nx.i 10 = 307 := fun z => ng (Or.inr ⟨n10, i307.mpr z⟩)
        rw [if_neg d1, if_neg d2] at hV'
        obtain ⟨f, hf, hV'⟩ := hf_bind hV'
        obtain ⟨fa, fb⟩ := y_can0 hf
        rw [if_pos fa] at hV'
        cases hV'
        exact Or.inl ⟨f113 _ h2' r1, u_flt g2 fb⟩
      · have go : f_X12_forBehind_143 N nx (q.i 63) = some V := by
          rcases r3 with ⟨r3, -⟩ | ⟨-, r3, -⟩
          · have k := i61.mp r3
            rw [if_pos k, y_can1 w7.1.1.2.1 (by rw [k]; decide), ob_some, if_neg n10] at hV'
            exact hV'
          · have k := i307.mp r3
            rw [if_neg (show ¬ nx.i 10 = 61 by rw [k]; decide), if_pos k, y_can1 w7.1.1.2.1 (by rw [k]; decide), ob_some, if_neg n10] at hV'
            exact hV'
        unfold f_X12_forBehind_143 f_X12_forBehind_159 at go
        rcases r3 with ⟨r3, v, xx, aa, ev, ex, eaa, hW⟩ | ⟨-, r3, v, aa, ev, eaa, hW⟩
        · -- NAME = EXPR
          have k := i61.mp r3
          rw [if_neg (show ¬ nx.i 10 = 307 by rw [k]; decide)] at go
          obtain ⟨n2, hn2, go⟩ := hf_bind go
          rw [if_pos rfl, ob_id] at go
          obtain ⟨w8, f8⟩ := w7.nx hN (by rw [r3]; decide) ev hn2
          have lo8 := w8.lo
          rcases y_expr hN hm1 hm2 hE w8.1 w8.2.1 (by omega) ex go g2 with ⟨z1, z2⟩ | ⟨m3, u, g3, xo, xc⟩
          · refine Or.inl ⟨f113 _ h2' ?_, z2⟩
            rw [hW, fst_add eaa]
            exact z1
          have w9 := w8.exo xo
          obtain ⟨ft8, -⟩ := FRB.ft (T := T) f8
          obtain ⟨ft9, u65⟩ := xo.ft
          have ft89 := ft8.tr ft9
          have lo9 := w9.lo
          obtain ⟨m4, V4, hV4, g4⟩ := rl_12 g3 w9.2.1 w9.1.1.2.1 (ft89.1.trans nx64)
          unfold f_X12_fors at hV4
          obtain ⟨-, hV4⟩ := hf_ite hV4
          rw [tp_nat w9.2.1, if_neg (show ¬ u.a 65 T = 0 by rw [u65]; decide), if_neg (show ¬ u.a 65 T = 1 by rw [u65]; decide), if_neg (show ¬ u.a 65 T = 2 by rw [u65]; decide), if_neg (show ¬ u.a 65 T = 3 by rw [u65]; decide), if_neg (show ¬ u.a 65 T = 4 by rw [u65]; decide), if_neg (show ¬ u.a 65 T = 5 by rw [u65]; decide), if_pos u65] at hV4
          obtain ⟨em3, hem3, hV4⟩ := hf_bind hV4
          cases hV4
          obtain ⟨w10, f10, -, n10', -⟩ := w9.em (by omega) hem3
          obtain ⟨ft10, -⟩ := FRB.ft (T := T) f10
          have ft := ft89.tr ft10
          have l20 : (Y.i 20).toInt ≤ (em3.2.i 20).toInt := by
            have z1 := w8.2.2.2.1.2.1.1
            have z2 : (n2.i 20).toInt ≤ (u.i 20).toInt := xo.2.2.2.2.1.2.1
            have z3 : (nx.i 20).toInt ≤ (n2.i 20).toInt := (y_nx hN w7.1 w7.2.1 (by rw [r3]; decide) ev hn2).2.2.2.1.2.1
            have z4 : (Y.i 20).toInt ≤ (nx.i 20).toInt := (y_nx hN w6.1 w6.2.1 (by rw [k2]; decide) eav hnx).2.2.2.1.2.1
            omega
          have w11 : WAZ d T 4 8 1 (-4) 4 S s aa.2 em3.2 := (w10.ad eaa).nu (by omega) (by omega) (by omega) (by omega) (by omega)
          rw [← hW] at w11
          exact fo_seven hN hC q1 q2 q3 hT hm hx hB (w11.sa (j := 65) (v := 7) ⟨by omega, by omega⟩) (ft.1.trans nx64) setA_at (ft.2.2.2.2.2.2.1.trans nx71) (ft.2.2.2.2.2.2.2.1.trans nx72) ⟨by show (s.i 20).toInt ≤ (em3.2.a 67 T).toInt; rw [ft.2.2.1, nx67, e20]; omega, by show (em3.2.a 67 T).toInt < (em3.2.i 20).toInt; rw [ft.2.2.1, nx67, e20]; omega⟩ (by show (s.i 20).toInt ≤ (em3.2.a 68 T).toInt; rw [ft.2.2.2.1, nx68]; omega) n5 (by show 0 ≤ (em3.2.a 70 T).toInt; rw [ft.2.2.2.2.2.1, nx70]; have z := w5.1.p20.1; rw [yi] at z; exact z) ⟨by show 0 ≤ (em3.2.a 66 T).toInt; rw [ft.2.1, nx66]; exact k66, by show (em3.2.a 67 T).toInt < (em3.2.a 68 T).toInt; rw [ft.2.2.1, nx67, ft.2.2.2.1, nx68, e20]; omega⟩ (fun ku jw => by
            have pcv : pcC v.2 = pcC p38.2 := (pcC.pe (ke_X9_advance N av.2 v ev)).trans pcN
            have prv : pcR n2 = pcR Y := (pcR.qe (kre_f_X12_next N nx n2 hn2)).trans prN
            have j1 := (jN ku jw).adv hN w7.1 (by rw [r3]; decide) ev hn2
            unfold KF7 at j1
            rw [← pcv, ← prv] at j1
            have j2 := j1.frl w8.1 xo xc (by omega) (by omega) (by omega) (by have := w8.lo; omega) (by have := w8.2.2.2.2.2.2.1.2.2.2; omega)
            have tb8 : TBK nx n2 := (y_nx hN w7.1 w7.2.1 (by rw [r3]; decide) ev hn2).2.2.2.1
            have tb9 : TBK nx u := tb8.tr xo.2.2.2.2.1
            have kn : (kx : Int) < (nx.i 38).toInt := by rw [n38]; exact kx2
            have u73 : u.a 73 T = Q.1 := ft89.2.2.2.2.2.2.2.2.trans nx73
            have g44 : (xx.2.i 44).toInt = (u.i 11).toInt := by rw [w9.1.p44.1]
            have g6 := (i11_hi w9.1).2
            have u20 := w9.1.p20
            have j3 := j2.sto (k := kx) eaa (by omega) (by omega) hem3 ⟨u20.1, by omega⟩ (by rw [tb9.1.1.2.2.2.1]; exact kn) (nm_fr w7.1 w9.1 tb9 kn n49) (gat_k kx1 (by omega)) (by rw [u73, (tb9.1.2.1 kx kn).2.1]; exact n40.symm)
            rw [← hW] at j3
            have z := (j3.imp (a1 := -2) (e1 := 1) (K' := JAN (JAN (KF6 U x5 x1 x3 x4 (pcC P) em2.1.toNatClampNeg em.1.toNatClampNeg (q.a 66 T).toNatClampNeg) (JLT (pcC P) (pcC ch.2))) (KF7 U x2 (em2.2.i 20) (pcC ch.2) (pcR em3.2))) (by omega) (by omega) (fun _ _ _ _ _ _ _ _ _ _ _ _ _ k => ⟨⟨k.1.1.1.1, (by
              have z1 : pcC P < pcC v.2 := k.1.1.1.2
              have z2 : pcC v.2 < pcC xx.2 + 1 := k.1.1.2
              have z3 : pcC xx.2 < pcC ch.2 := k.1.2
              show pcC P < pcC ch.2
              omega)⟩, k.2⟩)).se (u := RS.setA em3.2 65 T 7) rfl ⟨rfl, fun _ _ => rfl⟩
            show JRG A U B b (vws S s (c :: L)) s [hv x2, sv (em3.2.a 68 T), sv (em3.2.a 67 T), tv x4, tv x3] (JAN (JAN (KF6 U x5 x1 x3 x4 (pcC P) (em3.2.a 68 T).toNatClampNeg (em3.2.a 67 T).toNatClampNeg (em3.2.a 66 T).toNatClampNeg) (JLT (pcC P) (pcC ch.2))) (KF7 U x2 (em3.2.a 70 T) (pcC ch.2) (pcR (RS.setA em3.2 65 T 7)))) (-2) 1 ch.2 (RS.setA em3.2 65 T 7)
            rw [ft.2.2.2.1.trans nx68, ft.2.2.1.trans nx67, ft.2.1.trans nx66, ft.2.2.2.2.2.1.trans nx70]
            exact z) h2' e2 g4
        · -- NAME ++
          have k := i307.mp r3
          rw [if_pos k] at go
          obtain ⟨n2, hn2, go⟩ := hf_bind go
          rw [if_neg n10] at go
          obtain ⟨-, go⟩ := hf_ite go
          rw [tp_nat w.2.1] at go
          obtain ⟨em3, hem3, go⟩ := hf_bind go
          cases go
          obtain ⟨w8, f8⟩ := w7.nx hN (by rw [r3]; decide) ev hn2
          have lo8 := w8.lo
          obtain ⟨w10, f10, -, n10', -⟩ := w8.em (by omega) hem3
          obtain ⟨ft8, -⟩ := FRB.ft (T := T) f8
          obtain ⟨ft10, -⟩ := FRB.ft (T := T) f10
          have ft := ft8.tr ft10
          have l20 : (Y.i 20).toInt ≤ (em3.2.i 20).toInt := by
            have z3 : (nx.i 20).toInt ≤ (n2.i 20).toInt := (y_nx hN w7.1 w7.2.1 (by rw [r3]; decide) ev hn2).2.2.2.1.2.1
            have z4 : (Y.i 20).toInt ≤ (nx.i 20).toInt := (y_nx hN w6.1 w6.2.1 (by rw [k2]; decide) eav hnx).2.2.2.1.2.1
            omega
          have w11 : WAZ d T 4 8 1 (-4) 4 S s aa.2 em3.2 := (w10.ad eaa).nu (by omega) (by omega) (by omega) (by omega) (by omega)
          rw [← hW] at w11
          exact fo_seven hN hC q1 q2 q3 hT hm hx hB (w11.sa (j := 65) (v := 7) ⟨by omega, by omega⟩) (ft.1.trans nx64) setA_at (ft.2.2.2.2.2.2.1.trans nx71) (ft.2.2.2.2.2.2.2.1.trans nx72) ⟨by show (s.i 20).toInt ≤ (em3.2.a 67 T).toInt; rw [ft.2.2.1, nx67, e20]; omega, by show (em3.2.a 67 T).toInt < (em3.2.i 20).toInt; rw [ft.2.2.1, nx67, e20]; omega⟩ (by show (s.i 20).toInt ≤ (em3.2.a 68 T).toInt; rw [ft.2.2.2.1, nx68]; omega) n5 (by show 0 ≤ (em3.2.a 70 T).toInt; rw [ft.2.2.2.2.2.1, nx70]; have z := w5.1.p20.1; rw [yi] at z; exact z) ⟨by show 0 ≤ (em3.2.a 66 T).toInt; rw [ft.2.1, nx66]; exact k66, by show (em3.2.a 67 T).toInt < (em3.2.a 68 T).toInt; rw [ft.2.2.1, nx67, ft.2.2.2.1, nx68, e20]; omega⟩ (fun ku jw => by
            have pcv : pcC v.2 = pcC p38.2 := (pcC.pe (ke_X9_advance N av.2 v ev)).trans pcN
            have prv : pcR n2 = pcR Y := (pcR.qe (kre_f_X12_next N nx n2 hn2)).trans prN
            have j1 := (jN ku jw).adv hN w7.1 (by rw [r3]; decide) ev hn2
            unfold KF7 at j1
            rw [← pcv, ← prv] at j1
            have tb8 : TBK nx n2 := (y_nx hN w7.1 w7.2.1 (by rw [r3]; decide) ev hn2).2.2.2.1
            have kn : (kx : Int) < (nx.i 38).toInt := by rw [n38]; exact kx2
            have u73 : n2.a 73 T = Q.1 := ft8.2.2.2.2.2.2.2.2.trans nx73
            have g44 : (v.2.i 44).toInt = (n2.i 11).toInt := by rw [w8.1.p44.1]
            have g6 := (i11_hi w8.1).2
            have u20 := w8.1.p20
            have j3 := j1.inc (k := kx) eaa (by omega) (by omega) hem3 ⟨u20.1, by omega⟩ (by rw [tb8.1.1.2.2.2.1]; exact kn) (nm_fr w7.1 w8.1 tb8 kn n49) (gat_k kx1 (by omega)) (by rw [u73, (tb8.1.2.1 kx kn).2.1]; exact n40.symm)
            rw [← hW] at j3
            have z := (j3.imp (a1 := -2) (e1 := 1) (K' := JAN (JAN (KF6 U x5 x1 x3 x4 (pcC P) em2.1.toNatClampNeg em.1.toNatClampNeg (q.a 66 T).toNatClampNeg) (JLT (pcC P) (pcC ch.2))) (KF7 U x2 (em2.2.i 20) (pcC ch.2) (pcR em3.2))) (by omega) (by omega) (fun _ _ _ _ _ _ _ _ _ _ _ _ _ k => ⟨⟨k.1.1.1, (by
              have z1 : pcC P < pcC v.2 := k.1.1.2
              have z3 : pcC v.2 < pcC ch.2 := k.1.2
              show pcC P < pcC ch.2
              omega)⟩, k.2⟩)).se (u := RS.setA em3.2 65 T 7) rfl ⟨rfl, fun _ _ => rfl⟩
            show JRG A U B b (vws S s (c :: L)) s [hv x2, sv (em3.2.a 68 T), sv (em3.2.a 67 T), tv x4, tv x3] (JAN (JAN (KF6 U x5 x1 x3 x4 (pcC P) (em3.2.a 68 T).toNatClampNeg (em3.2.a 67 T).toNatClampNeg (em3.2.a 66 T).toNatClampNeg) (JLT (pcC P) (pcC ch.2))) (KF7 U x2 (em3.2.a 70 T) (pcC ch.2) (pcR (RS.setA em3.2 65 T 7)))) (-2) 1 ch.2 (RS.setA em3.2 65 T 7)
            rw [ft.2.2.2.1.trans nx68, ft.2.2.1.trans nx67, ft.2.1.trans nx66, ft.2.2.2.2.2.1.trans nx70]
            exact z) h2' e2 g2
    · rcases cc with ⟨r1, -⟩ | ⟨-, r2, -⟩
      · exact Or.inl ⟨f113 _ h2' r1, bad Q15⟩
      · exact absurd (r2 C y2) C1
  · -- neither
    rw [if_neg c2] at hV
    obtain ⟨f, hf, hV⟩ := hf_bind hV
    obtain ⟨fa, fb⟩ := y_can0 hf
    rw [if_pos fa] at hV
    cases hV
    rcases cls with ⟨n2, h⟩ | ⟨k2, -⟩
    · have h' := h
      unfold f_X7_forHead_113 at h'
      obtain ⟨p47, e47, h'⟩ := hf_bind h'
      have z := y_cl0 (fun z => c41 (i41.mp z)) e47
      refine Or.inl ⟨fW ?_, u_flt g2 fb⟩
      obtain ⟨p51, e51, h'⟩ := hf_bind h'
      obtain ⟨p55, e55, h'⟩ := hf_bind h'
      obtain ⟨p59, e59, h'⟩ := hf_bind h'
      obtain ⟨p63, e63, h'⟩ := hf_bind h'
      have z1 : ¬ p51.2.i 32 = 0 := by rw [fst_add e51]; exact z
      have z2 : ¬ p55.2.i 32 = 0 := by rw [kF_X0_aim N p51.2 x3 p55 e55 z1]; exact z1
      have z3 : ¬ p59.2.i 32 = 0 := by rw [fst_add e59]; exact z2
      have z4 : ¬ p63.2.i 32 = 0 := by rw [kF_X7_pushLoop N p59.2 207 x2 x4 p63 e63 z3]; exact z3
      rcases hf_oc h' with ⟨-, y⟩ | ⟨a, -, y⟩
      · cases y
      · obtain ⟨-, y⟩ := hf_ite y
        obtain ⟨-, y⟩ := hf_ite y
        cases y
        exact z4
    · exact absurd (i2.mp k2) c2
end
section
/-! both readers: for, from its first ; -/
def JTT : JKT := fun _ _ _ _ _ _ _ => True
set_option maxHeartbeats 4000000 in
theorem fo_three {N : Nat} (hN : 1000 ≤ N) {E1 : CS → Option (Unit × CS)} {E2 : CS → Option (Int32 × CS)} (hm1 : ∀ σ, Kf (CS.i σ 32) (E1 σ)) (hm2 : ∀ σ, Kf (CS.i σ 32) (E2 σ)) (hE : SXR N 18 E1) (hE2 : SXN N 22 E2) {d : Int32} {B : CS} {b : RS} {t0 T n : Nat} {L : List CEL} {x : Int} {S P : CS} {s q U : RS} {c : CEL} {W : Option Nat × CS} {R : Unit × CS} {A : JBA} (hC : COR d B b t0 (c :: L) x S s) (q1 : TOP S s c) (q2 : LOW S s c) (q3 : T = ceT c + wid (S.o c.2.1 0)) (hT : t0 ≤ T) (hm : NMC c S) (hx : S.o c.2.1 0 = 303 → x = -3) (hB : BOT b S (c :: L)) (w : WAZ d T 2 5 1 (-4) 2 S s P q) (k64 : q.a 64 T = 12) (k65 : q.a 65 T = 3) (k71 : q.a 71 T = S.i 50) (jg : KU3 U s → JRW A U B b (vws S s (c :: L)) S s → JRG A U B b (vws S s (c :: L)) s [] (JQA U 1264 0 (pcC P) (pcR q) JQZ) (-2) (-2) P q) (e : f_X7_forHead N E1 E2 P = some W) (e2 : f_X7_beginFor_85 N E1 E2 W.2 (S.i 50) W.1 = some R) (g : f_X12_parse_10 N n q = some U) : (¬ R.2.i 32 = 0 ∧ ¬ U.i 15 = 0) ∨ DMD d B R.2 U ∨ ∃ (m : Nat) (u : RS), f_X12_parse_10 N m u = some U ∧ NEW d B b t0 c L R.2 u (JTR A U B b (c :: L) S s) := by
  have hv := hC.1
  have t21 := hC.2.2.2.2.2.2.2.2.1.1
  have fW : ¬ W.2.i 32 = 0 → ¬ R.2.i 32 = 0 := fun z => by
    rw [kF_X7_beginFor_85 N E1 E2 hm1 hm2 W.2 (S.i 50) W.1 R e2 z]
    exact z
  -- the class, taken apart
  unfold f_X7_forHead at e
  obtain ⟨y1, ey1, e⟩ := hf_bind e
  obtain ⟨y5, ey5, e⟩ := hf_bind e
  obtain ⟨y9, ey9, e⟩ := hf_bind e
  obtain ⟨y13, ey13, e⟩ := hf_bind e
  obtain ⟨y17, ey17, e⟩ := hf_bind e
  obtain ⟨y21, ey21, e⟩ := hf_bind e
  have f76 : ∀ (Y : CS) (v : Int32), f_X7_forHead_76 N E1 E2 Y y1.1 y5.1 y9.1 y13.1 v = some W → ¬ Y.i 32 = 0 → ¬ R.2.i 32 = 0 := fun Y v h z => fW (by rw [kF_X7_forHead_76 N E1 E2 hm1 hm2 Y y1.1 y5.1 y9.1 y13.1 v W h z]; exact z)
  have cls : (¬ y21.2.i 43 = 59 ∧ ∃ (p75 : Int32 × CS) (p79 : Unit × CS), f_X1_condition N E1 E2 y21.2 = some p75 ∧ f_X0_add N p75.2 31 y13.1 = some p79 ∧ f_X7_forHead_76 N E1 E2 p79.2 y1.1 y5.1 y9.1 y13.1 p75.1 = some W) ∨ (y21.2.i 43 = 59 ∧ f_X7_forHead_76 N E1 E2 y21.2 y1.1 y5.1 y9.1 y13.1 1 = some W) := by
    obtain ⟨p25, e25, e⟩ := hf_bind e
    by_cases c2 : y21.2.i 43 = 59
    · rw [e_fnd1 c2] at e25
      cases e25
      rw [if_neg n10] at e
      exact Or.inr ⟨c2, e⟩
    · rw [e_fnd0 c2] at e25
      cases e25
      rw [if_pos rfl] at e
      obtain ⟨p75, e75, e⟩ := hf_bind e
      obtain ⟨p79, e79, e⟩ := hf_bind e
      exact Or.inl ⟨c2, p75, p79, e75, e79, e⟩
  have f21 : ¬ y21.2.i 32 = 0 → ¬ R.2.i 32 = 0 := fun z => by
    rcases cls with ⟨-, p75, p79, h1, h2, h3⟩ | ⟨-, h⟩
    · refine f76 _ _ h3 ?_
      have z1 : ¬ p75.2.i 32 = 0 := by rw [kF_X1_condition N E1 E2 hm1 hm2 y21.2 p75 h1 z]; exact z
      rw [fst_add h2]
      exact z1
    · exact f76 _ _ h z
  -- the reference
  obtain ⟨m2, V, hV, g2⟩ := rl_12 g w.2.1 w.1.1.2.1 k64
  unfold f_X12_fors at hV
  obtain ⟨-, hV⟩ := hf_ite hV
  rw [tp_nat w.2.1, if_neg (show ¬ q.a 65 T = 0 by rw [k65]; decide), if_neg (show ¬ q.a 65 T = 1 by rw [k65]; decide), if_neg (show ¬ q.a 65 T = 2 by rw [k65]; decide), if_pos k65] at hV
  obtain ⟨nd, hnd, hV⟩ := hf_bind hV
  have lo := w.lo
  have ph0 := hv.2.2.2.2.2.2.2.1
  have w1 := w.nt (by omega) ey1
  have lo1 := w1.lo
  have w2 := w1.nt (by omega) ey5
  have lo2 := w2.lo
  have w3 := w2.nt (by omega) ey9
  have lo3 := w3.lo
  have w4 := w3.nt (by omega) ey13
  have hx3 : ∃ v69 : Int32, ((nd.2.i 10 = 432 ∧ v69 = nd.2.i 17) ∨ (¬ nd.2.i 10 = 432 ∧ v69 = 0)) ∧ f_X12_fors_175 N (RS.setA (RS.setA nd.2 66 T (nd.2.i 20)) 69 T v69) (q.i 63) = some V := by
    by_cases c4 : nd.2.i 10 = 432
    · rw [if_pos c4] at hV
      exact ⟨_, Or.inl ⟨c4, rfl⟩, hV⟩
    · rw [if_neg c4] at hV
      exact ⟨_, Or.inr ⟨c4, rfl⟩, hV⟩
  obtain ⟨v69, h69, hV⟩ := hx3
  unfold f_X12_fors_175 f_X12_fors_195 at hV
  rcases w4.nd hN (c := 59) (e := 59) (Or.inl ⟨by decide, by decide⟩) (by decide) (by decide) (by decide) ey17 hnd with ⟨o1, o2, o3⟩ | ⟨o1, w5, f5⟩
  · refine Or.inl ⟨f21 (by rw [kF_X0_aim N y17.2 y1.1 y21 ey21 o2]; exact o2), u_flt g2 ?_⟩
    have o3' : ∀ v : Int32, ¬ (RS.setA (RS.setA (RS.setA nd.2 66 T (nd.2.i 20)) 69 T v69) 72 T v).i 15 = 0 := fun _ => o3
    rw [tp_nat w.2.1] at hV
    by_cases c9 : (RS.setA (RS.setA nd.2 66 T (nd.2.i 20)) 69 T v69).i 10 = 59
    · rw [if_pos c9] at hV
      obtain ⟨-, hV⟩ := hf_ite hV
      rw [if_pos (show (RS.setA (RS.setA (RS.setA nd.2 66 T (nd.2.i 20)) 69 T v69) 72 T 1).i 10 = 59 from c9)] at hV
      obtain ⟨em, hem, hV⟩ := hf_bind hV
      obtain ⟨-, hV⟩ := hf_ite hV
      cases hV
      show ¬ em.2.i 15 = 0
      exact krf_f_X12_emit N _ 2 1 em hem (o3' 1)
    · rw [if_neg c9] at hV
      obtain ⟨-, hV⟩ := hf_ite hV
      rw [if_neg (show ¬ (RS.setA (RS.setA (RS.setA nd.2 66 T (nd.2.i 20)) 69 T v69) 72 T 0).i 10 = 59 from c9), ob_id] at hV
      exact krf_f_X12_then N _ 4 20 V hV (o3' 0)
  obtain ⟨ft5, -⟩ := FRB.ft (T := T) f5
  have w6 := (((w5.ai ey21).sa (j := 66) (v := nd.2.i 20) ⟨by omega, by omega⟩).sa (j := 69) (v := v69) ⟨by omega, by omega⟩)
  obtain ⟨Y, hY⟩ : ∃ Y, Y = RS.setA (RS.setA nd.2 66 T (nd.2.i 20)) 69 T v69 := ⟨_, rfl⟩
  have y64 : Y.a 64 T = 12 := by rw [hY]; exact ft5.1.trans k64
  have y69 : Y.a 69 T = v69 := by rw [hY]; exact setA_at
  have y71 : Y.a 71 T = S.i 50 := by rw [hY]; exact ft5.2.2.2.2.2.2.1.trans k71
  have yi : Y.i = nd.2.i := by rw [hY]; rfl
  have y66 : Y.a 66 T = nd.2.i 20 := by
    rw [hY]
    show (RS.setA nd.2 66 T (nd.2.i 20)).a 66 T = nd.2.i 20
    exact setA_at
  have qY : qe Y = qe nd.2 := by rw [hY]; rfl
  have nY : NMV nd.2 Y := by rw [hY]; exact ⟨rfl, fun _ _ => rfl⟩
  have nd20 := w5.1.p20
  have y660 : 0 ≤ (Y.a 66 T).toInt := by rw [y66]; exact nd20.1
  have jY : KU3 U s → JRW A U B b (vws S s (c :: L)) S s → JRG A U B b (vws S s (c :: L)) s [tv y13.1, tv y9.1, tv y5.1] (JQA U 1264 0 (pcC y21.2) (pcR Y) (fun FC SF nm X ω j Z => Z ∧ TG1 FC SF U nm X y1.1 (Y.a 66 T).toNatClampNeg ω j)) (-3) 1 y21.2 Y := fun ku jw => by
    have h1 : (P.i 44).toInt = (q.i 11).toInt := by rw [w.1.p44.1]
    have h2 : (y1.2.i 44).toInt = (q.i 11).toInt := by rw [w1.1.p44.1]
    have h3 : (y5.2.i 44).toInt = (q.i 11).toInt := by rw [w2.1.p44.1]
    have h4 : (y9.2.i 44).toInt = (q.i 11).toInt := by rw [w3.1.p44.1]
    have h5 : (y17.2.i 44).toInt = (nd.2.i 11).toInt := by rw [w5.1.p44.1]
    have g6 := (i11_hi w.1).2
    have g6' := (i11_hi w5.1).2
    have j1 := ((((jg ku jw).nt ey1 (by omega) (by omega)).nt ey5 (by omega) (by omega)).nt ey9 (by omega) (by omega)).nt ey13 (by omega) (by omega)
    have j2 := j1.ned hN w4.1 (c := 59) (c' := 59) (Or.inl ⟨by decide, by decide⟩) (by decide) (by decide) (by decide) ey17 hnd o1
    have j3 := JRG.aim (W1 := [tv y13.1, tv y9.1, tv y5.1]) (W2 := []) (K' := fun FC SF nm X ω j Z => (cTg SF y1.1).toInt = ((pcC y17.2 : Nat) : Int) ∧ JQA U 1264 0 (pcC P) (pcR q) JQZ FC SF nm X ω j Z) j2 ey21 (by omega) (by omega) (fun FC SF nm X ω j Z h k => ⟨h, k⟩)
    have j4 := j3.se qY nY
    have n1 : y1.2.i 20 = P.i 20 := by
      unfold f_X0_newTarget at ey1
      cases ey1
      rfl
    have n2 : y5.2.i 20 = y1.2.i 20 := by
      unfold f_X0_newTarget at ey5
      cases ey5
      rfl
    have n3 : y9.2.i 20 = y5.2.i 20 := by
      unfold f_X0_newTarget at ey9
      cases ey9
      rfl
    have n4 : y13.2.i 20 = y9.2.i 20 := by
      unfold f_X0_newTarget at ey13
      cases ey13
      rfl
    have n5 : y21.2.i 20 = y17.2.i 20 := by
      unfold f_X0_aim at ey21
      cases ey21
      rfl
    have pc1 : pcC y17.2 = pcC P := (pcC.pe (ke_X1_expect N y13.2 59 y17 ey17)).trans (by unfold pcC; rw [n4, n3, n2, n1])
    have pc2 : pcC y21.2 = pcC y17.2 := by unfold pcC; rw [n5]
    have prY : pcR Y = pcR nd.2 := pcR.qe qY
    have prn : pcR nd.2 = pcR q := pcR.qe (kre_f_X12_need N q 59 nd hnd)
    have e66 : (Y.a 66 T).toNatClampNeg = pcR Y := by rw [y66, prY]; rfl
    refine j4.imp (by omega) (by omega) (fun FC SF nm X ω j Z hc hh tyc tl hω r12 k gu => ⟨k.2 (fun g => ?_), pcC y21.2, by rw [pc2]; exact k.1, by unfold pcC; omega, fun g => by rw [e66]; exact gu g⟩)
    have z := gu g
    rw [pc2, pc1, prY, prn] at z
    exact z
  rw [← hY] at hV w6
  clear hY
  rw [← yi] at h69
  have i59 := tk_is w6.1 (a := 59) (b := 59) (Or.inl ⟨by decide, by decide⟩) (by decide)
  have lo6 := w6.lo
  rw [tp_nat w.2.1] at hV
  by_cases c9 : Y.i 10 = 59
  · -- no condition
    rw [if_pos c9] at hV
    obtain ⟨-, hV⟩ := hf_ite hV
    rw [if_pos (show (RS.setA Y 72 T 1).i 10 = 59 from c9)] at hV
    obtain ⟨em, hem, hV⟩ := hf_bind hV
    obtain ⟨-, hV⟩ := hf_ite hV
    cases hV
    have w7 := w6.sa (j := 72) (v := 1) ⟨by omega, by omega⟩
    have lo7 := w7.lo
    obtain ⟨w8, f8, -, -, -⟩ := w7.em (by omega) hem
    obtain ⟨ft8, -⟩ := FRB.ft (T := T) f8
    rcases cls with ⟨n2, -⟩ | ⟨-, h⟩
    · exact absurd (i59.mpr c9) n2
    · exact fo_five hN hm1 hm2 hE hC q1 q2 q3 hT hm hx hB ((w8.sa (j := 65) (v := 5) ⟨by omega, by omega⟩).nu (by omega) (by omega) (by omega) (by omega) (by omega)) (ft8.1.trans y64) setA_at (ft8.2.2.2.2.2.2.1.trans y71) (ft8.2.2.2.2.2.2.2.1.trans setA_at) ⟨nt5 w1.1 ey5, nt5 w3.1 ey13⟩ (by show 0 ≤ (em.2.a 66 T).toInt; rw [ft8.2.1]; exact y660) (fun ku jw => by
      have Y20 : (Y.i 20).toInt = (nd.2.i 20).toInt := by rw [yi]
      have j6 := ((jY ku jw).se (u := RS.setA Y 72 T 1) rfl ⟨rfl, fun _ _ => rfl⟩).emt hem ⟨by show 0 ≤ (Y.i 20).toInt; omega, by show (Y.i 20).toInt < 3000; omega⟩
      have e66 : em.2.a 66 T = Y.a 66 T := ft8.2.1
      have z := (j6.imp (a1 := -2) (e1 := 2) (K' := KF5 U 1 y1.1 y9.1 y13.1 (Y.a 66 T).toNatClampNeg (pcC y21.2) (pcR em.2)) (by omega) (by omega) (fun FC SF nm X ω j Z hc hh tyc tl hω r12 k => by
        intro s1 s2 s3 u1 u2 u3 hc' hω' r4 r3
        obtain ⟨⟨v1, v2, v3, v4, v5⟩, kk⟩ := k
        have v5' : pcR em.2 = pcR Y + 1 := v5
        have v4' : ((pcR Y : Nat) : Int) < (U.i 20).toInt ∧ (U.i 20).toInt ≤ 3000 := v4
        have v1' : U.a 21 (pcR Y) = 2 := v1
        have v2' : U.a 22 (pcR Y) = 1 := v2
        rw [v5'] at u1 u2 u3 r3
        obtain ⟨pp, qq, lt, w1', w2', w3'⟩ := r3
        have pq : PQX SF U (pcC y21.2) (pcR Y) := ⟨s3, v4'⟩
        refine kk (fun g => gi_UFor (pq.hc hc) pq.2.1 ⟨s1, ⟨v1', v2', u1, u2, u3.1⟩, pp, qq, _, ⟨by rw [s2]; exact w1', w2'⟩, ?_, w3'⟩)
        have e9 : (j.up 1264).l = j.l + 1264 := rfl
        rw [e9]
        have := s3
        omega)).se (u := RS.setA em.2 65 T 5) rfl ⟨rfl, fun _ _ => rfl⟩
      show JRG A U B b (vws S s (c :: L)) s [tv y13.1, tv y9.1, tv y5.1] (KF5 U 1 y1.1 y9.1 y13.1 (em.2.a 66 T).toNatClampNeg (pcC y21.2) (pcR (RS.setA em.2 65 T 5))) (-2) 2 y21.2 (RS.setA em.2 65 T 5)
      rw [e66]
      exact z) h e2 g2
  · rw [if_neg c9] at hV
    obtain ⟨-, hV⟩ := hf_ite hV
    rw [if_neg (show ¬ (RS.setA Y 72 T 0).i 10 = 59 from c9), ob_id] at hV
    rcases cls with ⟨-, p75, p79, h1, h2, h3⟩ | ⟨n2, -⟩
    · have w7 := w6.sa (j := 72) (v := 0) ⟨by omega, by omega⟩
      have lo7 := w7.lo
      rcases y_cond hN hm1 hm2 hE2 w7.1 w7.2.1 (by omega) h1 hV g2 with ⟨z1, z2⟩ | ⟨m3, u, g3, xo, hn01, hn1, xc⟩
      · exact Or.inl ⟨f76 _ _ h3 (by rw [fst_add h2]; exact z1), z2⟩
      obtain ⟨gf, xg, hg⟩ : ∃ gf : Nat, CDE gf U y21.2 (RS.setA Y 72 T 0) p75.2 u ∧ ((gf = 2 ∧ ¬ p75.1 = 1) ∨ (gf = 4 ∧ p75.1 = 1)) := by
        rcases hn01 with z | z
        · exact ⟨2, xc.1, Or.inl ⟨rfl, by rw [z]; decide⟩⟩
        · exact ⟨4, xc.2 z, Or.inr ⟨rfl, z⟩⟩
      have w8 := w7.exo xo
      obtain ⟨ft8, u65⟩ := xo.ft
      have u69 : u.a 69 T = v69 := ft8.2.2.2.2.1.trans y69
      obtain ⟨m4, V4, hV4, g4⟩ := rl_12 g3 w8.2.1 w8.1.1.2.1 (ft8.1.trans y64)
      unfold f_X12_fors f_X12_fors_255 at hV4
      obtain ⟨-, hV4⟩ := hf_ite hV4
      rw [tp_nat w8.2.1, if_neg (show ¬ u.a 65 T = 0 by rw [u65]; decide), if_neg (show ¬ u.a 65 T = 1 by rw [u65]; decide), if_neg (show ¬ u.a 65 T = 2 by rw [u65]; decide), if_neg (show ¬ u.a 65 T = 3 by rw [u65]; decide), if_pos u65, u69] at hV4
      obtain ⟨jt, hjt, hV4⟩ := hf_bind hV4
      have r17 : 0 < (Y.i 17).toInt ∧ (Y.i 17).toInt < 2000 := by
        have z1 : 3 ≤ phI Y := by omega
        have z2 := w6.1.2.2.2.2.2.2.1
        have z3 := w6.1.2.2.2.2.2.2.2.2.1
        have z4 := i11_hi w6.1
        unfold phI at z1
        omega
      have ejt := jt_eq hjt h69 r17 hn01 hn1
      rw [ejt] at hV4
      have hV5 : V4 = RS.setA (RS.setA u 72 T p75.1) 65 T 5 := by
        rcases hn01 with h | h
        · rw [if_pos h] at hV4
          obtain ⟨-, hV4⟩ := hf_ite hV4
          cases hV4
          rw [h]
        · rw [if_neg (show ¬ (p75.1, u).1 = 0 by show ¬ p75.1 = 0; rw [h]; decide)] at hV4
          obtain ⟨-, hV4⟩ := hf_ite hV4
          cases hV4
          rw [h]
      rw [hV5] at g4
      have w9 := (((w8.ad h2).sa (j := 72) (v := p75.1) ⟨by omega, by omega⟩).sa (j := 65) (v := 5) ⟨by omega, by omega⟩)
      exact fo_five hN hm1 hm2 hE hC q1 q2 q3 hT hm hx hB (w9.nu (by omega) (by omega) (by omega) (by omega) (by omega)) (ft8.1.trans y64) setA_at (ft8.2.2.2.2.2.2.1.trans y71) (show (RS.setA u 72 T p75.1).a 72 T = p75.1 from setA_at) ⟨nt5 w1.1 ey5, nt5 w3.1 ey13⟩ (by show 0 ≤ (u.a 66 T).toInt; rw [ft8.2.1]; exact y660) (fun ku jw => by
        have j5 := ((jY ku jw).se (u := RS.setA Y 72 T 0) rfl ⟨rfl, fun _ _ => rfl⟩).imp (a1 := -3) (e1 := 1) (K' := JAN JTT (JQA U 1264 0 (pcC y21.2) (pcR (RS.setA Y 72 T 0)) (fun FC SF nm X ω j Z => Z ∧ TG1 FC SF U nm X y1.1 (Y.a 66 T).toNatClampNeg ω j))) (by omega) (by omega) (fun _ _ _ _ _ _ _ _ _ _ _ _ _ k => ⟨True.intro, k⟩)
        have j6 := j5.frm w7.1 xo xg (by omega) (by omega) (by omega) (by have := w7.lo; omega) (by have := w7.2.2.2.2.2.2.1.2.2.2; omega)
        have g44 : (p75.2.i 44).toInt = (u.i 11).toInt := by rw [w8.1.p44.1]
        have g6 := (i11_hi w8.1).2
        have j7 := j6.add h2 (by omega) (by omega)
        have e66 : u.a 66 T = Y.a 66 T := ft8.2.1
        have z := (j7.imp (a1 := -2) (e1 := 2) (K' := KF5 U p75.1 y1.1 y9.1 y13.1 (Y.a 66 T).toNatClampNeg (pcC p79.2) (pcR u)) (by omega) (by omega) (fun FC SF nm X ω j Z hc hh tyc tl hω r12 k => by
          intro s1 s2 s3 u1 u2 u3 hc' hω' r4 r3
          obtain ⟨⟨v1, v2, v3, v4⟩, -, kk⟩ := k
          rw [v4] at s1 s2 s3 r3
          obtain ⟨pp, qq, lt, w1', w2', w3'⟩ := r3
          have pq0 : PQX SF U (pcC p75.2) (pcR u) := ⟨v3, by have := u3.1; omega, u3.2⟩
          have pq1 : PQX SF U (pcC p75.2 + 1) (pcR u + 1) := ⟨s3, u3⟩
          have e9 : (j.up 1264).l = j.l + 1264 := rfl
          rw [e9] at w3'
          have z1 : GU FC SF U nm X (pcC p75.2 + 1) (pcR u + 1) j.h (ω + j.l + 1264 - (pcC p75.2 + 1)) 0 j.c := gi_UJmp (pq1.hc hc) pq1.2.1 ⟨s1, u2, pp, qq, _, ⟨by rw [s2]; exact w1', w2'⟩, by omega, w3'⟩
          exact kk (gi_UJz (pq0.hc (hc.up (Nat.le_add_right _ _))) pq0.2.1 ⟨v1, u1, _, rfl, (by
            rcases hg with ⟨-, z⟩ | ⟨z, -⟩
            · obtain ⟨p4, q4, x1', x2', x3'⟩ := r4 z
              exact Or.inr ⟨p4, q4, _, ⟨by rw [v2]; exact x1', x2'⟩, by omega, x3'⟩
            · exact Or.inl z), ⟨_, by omega, z1⟩⟩))).se (u := RS.setA (RS.setA u 72 T p75.1) 65 T 5) rfl ⟨rfl, fun _ _ => rfl⟩
        show JRG A U B b (vws S s (c :: L)) s [tv y13.1, tv y9.1, tv y5.1] (KF5 U p75.1 y1.1 y9.1 y13.1 (u.a 66 T).toNatClampNeg (pcC p79.2) (pcR (RS.setA (RS.setA u 72 T p75.1) 65 T 5))) (-2) 2 p79.2 (RS.setA (RS.setA u 72 T p75.1) 65 T 5)
        rw [e66]
        exact z) h3 e2 g4
    · exact absurd (i59.mp n2) c9
end
section
/-! both readers: for (int NAME = EXPR -/
theorem e_exp1 {N : Nat} {S : CS} {c : Int32} {R : Unit × CS} (k : S.i 43 = c) (e : f_X1_expect N S c = some R) : f_X9_advance N S = some R := by
  unfold f_X1_expect at e
  rw [e_fnd1 k, ob_some, if_neg n10] at e
  obtain ⟨p, ep, e⟩ := hf_bind e
  cases e
  exact ep
theorem y_ex0 {N : Nat} {S : CS} {c : Int32} {R : Unit × CS} (k : ¬ S.i 43 = c) (e : f_X1_expect N S c = some R) : ¬ R.2.i 32 = 0 := by
  unfold f_X1_expect at e
  rw [e_fnd0 k, ob_some, if_pos rfl] at e
  obtain ⟨p, ep, e⟩ := hf_bind e
  cases e
  exact y_misp ep
theorem b80_in {N : Nat} {E1 : CS → Option (Unit × CS)} {E2 : CS → Option (Int32 × CS)} {X : CS} {v : Int32} {R : Unit × CS} (e : f_X7_beginFor_80 N E1 E2 X v = some R) : ∃ W : Option Nat × CS, f_X7_forHead N E1 E2 X = some W ∧ f_X7_beginFor_85 N E1 E2 W.2 v W.1 = some R := by
  unfold f_X7_beginFor_80 at e
  obtain ⟨W, eW, e⟩ := hf_bind e
  rcases hf_oc e with ⟨h1, h2⟩ | ⟨a, h1, h2⟩
  · exact ⟨W, eW, by rw [h1]; exact h2⟩
  · exact ⟨W, eW, by rw [h1]; exact h2⟩
/-- no ; where one must stand -/
theorem fh_bad {N : Nat} {E1 : CS → Option (Unit × CS)} {E2 : CS → Option (Int32 × CS)} (hm1 : ∀ σ, Kf (CS.i σ 32) (E1 σ)) (hm2 : ∀ σ, Kf (CS.i σ 32) (E2 σ)) {X : CS} {W : Option Nat × CS} (k : ¬ X.i 43 = 59) (e : f_X7_forHead N E1 E2 X = some W) : ¬ W.2.i 32 = 0 := by
  unfold f_X7_forHead at e
  obtain ⟨y1, ey1, e⟩ := hf_bind e
  obtain ⟨y5, ey5, e⟩ := hf_bind e
  obtain ⟨y9, ey9, e⟩ := hf_bind e
  obtain ⟨y13, ey13, e⟩ := hf_bind e
  obtain ⟨y17, ey17, e⟩ := hf_bind e
  obtain ⟨y21, ey21, e⟩ := hf_bind e
  have k13 : ¬ y13.2.i 43 = 59 := by
    rw [(nt_i ey13).2.1, (nt_i ey9).2.1, (nt_i ey5).2.1, (nt_i ey1).2.1]
    exact k
  have z17 := y_ex0 k13 ey17
  have z21 : ¬ y21.2.i 32 = 0 := by rw [kF_X0_aim N y17.2 y1.1 y21 ey21 z17]; exact z17
  have f76 : ∀ (Y : CS) (v : Int32), f_X7_forHead_76 N E1 E2 Y y1.1 y5.1 y9.1 y13.1 v = some W → ¬ Y.i 32 = 0 → ¬ W.2.i 32 = 0 := fun Y v h z => by
    rw [kF_X7_forHead_76 N E1 E2 hm1 hm2 Y y1.1 y5.1 y9.1 y13.1 v W h z]
    exact z
  obtain ⟨p25, e25, e⟩ := hf_bind e
  by_cases c2 : y21.2.i 43 = 59
  · rw [e_fnd1 c2] at e25
    cases e25
    rw [if_neg n10] at e
    exact f76 _ _ e z21
  · rw [e_fnd0 c2] at e25
    cases e25
    rw [if_pos rfl] at e
    obtain ⟨p75, e75, e⟩ := hf_bind e
    obtain ⟨p79, e79, e⟩ := hf_bind e
    refine f76 _ _ e ?_
    rw [fst_add e79, kF_X1_condition N E1 E2 hm1 hm2 y21.2 p75 e75 z21]
    exact z21
/-- the name is told -/
theorem WAY.tel {N : Nat} {d : Int32} {T : Nat} {p f k y z : Int} {S P : CS} {s q : RS} {l : Int64} {w : Int32 × CS} {v : Int32 × RS} (h : WAY (d + 1) T p f k y z S s P q) (hp : 8 ≤ p) (h8 : 8 * ((s.i 38).toInt - 2) ≤ (s.i 11).toInt) (hn : ∀ k : Nat, (k : Int) < (q.i 38).toInt → ¬ q.b 39 k = l) (e : f_X7_tell N P l = some w) (g : f_X12_see N q l 0 = some v) : WAZ d T p f k y z S s w.2 v.2 ∧ (∀ r : Nat, FRB r q v.2) := by
  obtain ⟨h1, h2, h3, h4, h5, ⟨i1, i2, i3, i4, i5⟩, ⟨n1, n2, n3, n4⟩, ⟨r1, r2, r3⟩⟩ := h
  obtain ⟨t1, t2, t3, t4, t5, t6, t7, t8, t9, t10⟩ := h4.1.1
  obtain ⟨a1, a2, a3, a4, a5, a6⟩ := y_tell h1 (by rw [t4]; omega) hn e g
  obtain ⟨b1, b2, ⟨m1, m2, m3, m4, m5, m6, m7, m8, m9⟩, b4, b5, b6⟩ := see_tbr g
  have zi := (y_see g).2.2.1
  have ck : CKZ P w.2 := a2.z
  have c38 : w.2.i 38 = P.i 38 := a2.1.2.2.1
  have c53 : w.2.i 53 = P.i 53 := a2.1.2.2.2.2.1
  have c56 : w.2.i 56 = P.i 56 := a2.1.2.2.2.2.2
  have rt : RTE P w.2 := a2.2.2.2.2.2.2.2.2
  have k11 := h1.1.2.2.2.1.1
  have k11' := a1.1.2.2.2.1.1
  unfold RTE at rt
  rw [k11, k11'] at rt
  have z11 : v.2.i 11 = q.i 11 := zi 11 (by decide) (by decide)
  have z17 : v.2.i 17 = q.i 17 := zi 17 (by decide) (by decide)
  have z19 : v.2.i 19 = q.i 19 := zi 19 (by decide) (by decide)
  rw [z11] at rt
  have tv : tpI v.2 = (T : Int) := by
    show (v.2.i 63).toInt = (T : Int)
    rw [zi 63 (by decide) (by decide)]
    exact h2
  exact ⟨⟨a1, tv, h3.tr (b4 T), ⟨h4.1.r.tr b1 (by rw [t4]; exact Int.le_refl _) (by rw [t5]; exact Int.le_refl _) (by rw [t7]; exact Int.le_refl _), h4.2.tr (b2.wk h4.2.1), ⟨m1.trans t1, m2.trans t2, m3.trans t3, m4.trans t5, m5.trans t6, m6.trans t7, m7.trans t8, m8.trans t9, m9.trans t10⟩⟩, h5.tr i3 ck, ⟨c38.trans i1, c53.trans i3, c56.trans i4, a6.trans i5⟩, ⟨by rw [z11]; exact n1, by rw [b5]; exact n2, by rw [z17]; exact n3, by rw [z19]; exact n4⟩, ⟨by rw [z11]; omega, by rw [z11]; omega, by rw [z11]; omega⟩, ⟨by rw [b6, t4]; omega, fun _ => by rw [b6, t4, z11]; omega⟩⟩, b4⟩
set_option maxHeartbeats 4000000 in
theorem fo_def {N : Nat} (hN : 1000 ≤ N) {E1 : CS → Option (Unit × CS)} {E2 : CS → Option (Int32 × CS)} (hm1 : ∀ σ, Kf (CS.i σ 32) (E1 σ)) (hm2 : ∀ σ, Kf (CS.i σ 32) (E2 σ)) (hE : SXR N 18 E1) (hE2 : SXN N 22 E2) {d : Int32} {B : CS} {b : RS} {t0 T n : Nat} {L : List CEL} {x : Int} {S P : CS} {s q V U : RS} {c : CEL} {l : Int64} {D : Unit × CS} {W : Option Nat × CS} {R : Unit × CS} {A : JBA} (hC : COR d B b t0 (c :: L) x S s) (q1 : TOP S s c) (q2 : LOW S s c) (q3 : T = ceT c + wid (S.o c.2.1 0)) (hT : t0 ≤ T) (hm : NMC c S) (hx : S.o c.2.1 0 = 303 → x = -3) (hB : BOT b S (c :: L)) (w : WAY (d + 1) T 7 11 1 (-4) 2 S s P q) (jg : KU3 U s → JRW A U B b (vws S s (c :: L)) S s → JRG A U B b (vws S s (c :: L)) s [] (JQA U 1264 0 (pcC P) (pcR q) JQZ) (-4) (-4) P q) (k10 : q.i 10 = 61) (k64 : q.a 64 T = 12) (k71 : q.a 71 T = S.i 50) (k74 : q.b 74 T = l) (fr : ∀ k : Nat, (k : Int) < (q.i 38).toInt → ¬ q.b 39 k = l) (e : f_X7_define N E1 E2 P l = some D) (e1 : f_X7_forHead N E1 E2 D.2 = some W) (e2 : f_X7_beginFor_85 N E1 E2 W.2 (S.i 50) W.1 = some R) (hV : f_X12_forHead_76 N q (q.i 63) 0 = some V) (g : f_X12_parse_10 N n V = some U) : (¬ R.2.i 32 = 0 ∧ ¬ U.i 15 = 0) ∨ DMD d B R.2 U ∨ ∃ (m : Nat) (u : RS), f_X12_parse_10 N m u = some U ∧ NEW d B b t0 c L R.2 u (JTR A U B b (c :: L) S s) := by
  have hv := hC.1
  have h8 := hC.2.2.2.2.2.2.2.2.1.2.1
  have fD : ¬ D.2.i 32 = 0 → ¬ R.2.i 32 = 0 := fun z => by
    have z1 : ¬ W.2.i 32 = 0 := by rw [kF_X7_forHead N E1 E2 hm1 hm2 D.2 W e1 z]; exact z
    rw [kF_X7_beginFor_85 N E1 E2 hm1 hm2 W.2 (S.i 50) W.1 R e2 z1]
    exact z1
  unfold f_X7_define at e
  obtain ⟨x1, ex1, e⟩ := hf_bind e
  obtain ⟨x5, ex5, e⟩ := hf_bind e
  obtain ⟨x9, ex9, e⟩ := hf_bind e
  obtain ⟨x13, ex13, e⟩ := hf_bind e
  cases e
  have k43 := (tk_is w.1 (a := 61) (b := 61) (Or.inl ⟨by decide, by decide⟩) (by decide)).mpr k10
  have ea := e_exp1 k43 ex1
  unfold f_X12_forHead_76 f_X12_forHead_142 at hV
  obtain ⟨nx, hnx, hV⟩ := hf_bind hV
  rw [if_pos rfl, ob_id] at hV
  obtain ⟨w1, f1⟩ := w.nx hN (by rw [k43]; decide) ea hnx
  have p1 : 3 ≤ phI nx := by
    have z1 := w1.2.2.2.2.2.2.1.2.1
    have z2 := hv.2.2.2.2.2.2.2.1
    omega
  rcases y_expr hN hm1 hm2 hE w1.1 w1.2.1 p1 ex5 hV g with ⟨z1, z2⟩ | ⟨m3, u, g3, xo, xc⟩
  · refine Or.inl ⟨fD ?_, z2⟩
    show ¬ x13.2.i 32 = 0
    rw [fst_add ex13, kF_X7_tell N x5.2 l x9 ex9 z1]
    exact z1
  have w2 := w1.exo xo
  obtain ⟨ft1, -⟩ := FRB.ft (T := T) f1
  obtain ⟨ft2, u65⟩ := xo.ft
  have u74 : u.b 74 T = l := by
    rw [xo.2.2.1.2.2.2.2.2.2.2.2.2.2, (f1 (T + 1) T (by omega)).2.2.2.2.2.2.2.2.2.2]
    exact k74
  have ft := ft1.tr ft2
  obtain ⟨m4, V4, hV4, g4⟩ := rl_12 g3 w2.2.1 w2.1.1.2.1 (ft.1.trans k64)
  unfold f_X12_fors at hV4
  obtain ⟨-, hV4⟩ := hf_ite hV4
  rw [tp_nat w2.2.1, if_neg (show ¬ u.a 65 T = 0 by rw [u65]; decide), if_pos u65, u74] at hV4
  obtain ⟨z, hz, hV4⟩ := hf_bind hV4
  obtain ⟨em, hem, hV4⟩ := hf_bind hV4
  cases hV4
  have tb : TBK q u := by
    have z1 : TBK q nx := (y_nx hN w.1 w.2.1 (by rw [k43]; decide) ea hnx).2.2.2.1
    exact z1.tr xo.2.2.2.2.1
  have u38 : u.i 38 = q.i 38 := tb.1.1.2.2.2.1
  obtain ⟨w3, f3⟩ := w2.tel (by omega) h8 (fun k hk => by
    rw [u38] at hk
    rw [(tb.1.2.1 k hk).1]
    exact fr k hk) ex9 hz
  have lo3 := w3.lo
  have ph0 := hv.2.2.2.2.2.2.2.1
  obtain ⟨w4, f4, -, -, -⟩ := (w3.ad ex13).em (by omega) hem
  obtain ⟨ft3, -⟩ := FRB.ft (T := T) f3
  obtain ⟨ft4, -⟩ := FRB.ft (T := T) f4
  have ftt := ft.tr (ft3.tr ft4)
  exact fo_three hN hm1 hm2 hE hE2 hC q1 q2 q3 hT hm hx hB ((w4.sa (j := 65) (v := 3) ⟨by omega, by omega⟩).nu (by omega) (by omega) (by omega) (by omega) (by omega)) (ftt.1.trans k64) setA_at (ftt.2.2.2.2.2.2.1.trans k71) (fun ku jw => by
    have pc1 : pcC x1.2 = pcC P := pcC.pe (ke_X1_expect N P 61 x1 ex1)
    have pr1 : pcR nx = pcR q := pcR.qe (kre_f_X12_next N q nx hnx)
    have j1 := (jg ku jw).adv hN w.1 (by rw [k43]; decide) ea hnx
    have j2 := j1.imp (a1 := -5) (e1 := -5) (K' := JAN JTT (JQA U 1264 0 (pcC x1.2) (pcR nx) JQZ)) (by omega) (by omega) (fun _ _ _ _ _ _ _ _ _ _ _ _ _ k => ⟨True.intro, by rw [pc1, pr1]; exact k⟩)
    have j3 := j2.frm w1.1 xo xc (by omega) (by omega) (by omega) (by have := w1.2.2.2.2.2.2.1.1; omega) (by have := w1.2.2.2.2.2.2.1.2.2.2; omega)
    have u20 := w2.1.p20
    have j4 := j3.tel (by rw [u38, w.2.2.2.1.1.1.2.2.2.1]; exact hC.2.2.2.2.2.1.2.1.1) w2.1 (by omega) ex9 hz ex13 hem (by omega) (by omega)
    exact (j4.imp (a1 := -2) (e1 := -2) (K' := JQA U 1264 0 (pcC x13.2) (pcR em.2) JQZ) (by omega) (by omega) (fun _ _ _ _ _ _ _ _ _ _ _ _ _ k => k.2)).se (u := RS.setA em.2 65 T 3) rfl ⟨rfl, fun _ _ => rfl⟩) e1 e2 g4
end
section
/-! both readers: a name is told in the one before, in the other behind a sign -/
def SEZ (s s' : RS) : Prop := (∀ k : Nat, k ≠ 38 → k ≠ 42 → s'.i k = s.i k) ∧ (∀ k : Nat, k ≠ 40 → k ≠ 41 → s'.a k = s.a k) ∧ (∀ k : Nat, k ≠ 39 → s'.b k = s.b k) ∧ s'.l = s.l
/-- u, but what s says of the names -/
def uns (u s : RS) : RS := (va_up (va_up u.i 38 (s.i 38)) 42 (s.i 42), u.l, va_up (va_up u.a 40 (s.a 40)) 41 (s.a 41), va_up u.b 39 (s.b 39))
theorem uns.z {u s : RS} : SEZ u (uns u s) := ⟨fun _ h1 h2 => (if_neg h2).trans (if_neg h1), fun _ h1 h2 => (if_neg h2).trans (if_neg h1), fun _ h => if_neg h, rfl⟩
theorem uns.n {u s : RS} : (uns u s).i 38 = s.i 38 ∧ (uns u s).a 41 = s.a 41 ∧ (uns u s).b 39 = s.b 39 ∧ (uns u s).a 40 = s.a 40 := by
  exact ⟨rfl, rfl, rfl, rfl⟩
theorem BT.sez {S : CS} {s s' : RS} (h : BT S s) (z : SEZ s s') : BT S s' := by
  obtain ⟨zi, za, zb, zl⟩ := z
  obtain ⟨h1, h2, ⟨t1, t2, t3, t4⟩, ⟨k1, k2, k3, k4, k5, k6⟩, h5, h6, h7, h8⟩ := h
  have e2 := zi 2 (by decide) (by decide)
  have e10 := zi 10 (by decide) (by decide)
  have e11 := zi 11 (by decide) (by decide)
  have e12 := zi 12 (by decide) (by decide)
  have e14 := zi 14 (by decide) (by decide)
  have e15 := zi 15 (by decide) (by decide)
  have a1 := za 1 (by decide) (by decide)
  have b9 := zb 9 (by decide)
  exact ⟨h1, by rw [e15]; exact h2, ⟨by rw [e2]; exact t1, by rw [e2]; exact t2, fun k hk => by rw [e2] at hk; rw [a1]; exact t3 k hk, fun k hk => by rw [b9]; exact t4 k hk⟩, ⟨by rw [e11]; exact k1, by rw [e12]; exact k2, by rw [e10]; exact k3, k4, fun q => by rw [zl]; exact k5 q, fun q => by rw [e14]; exact k6 q⟩, by rw [e12, e2]; exact h5, fun k hk => by rw [b9]; exact h6 k hk, h7, h8⟩
theorem ENV.adv2 {N : Nat} (hN : 1000 ≤ N) {d : Int32} {S : CS} {s s' : RS} {R : Unit × CS} {u : RS} (h : ENV d S s) (sz : SEZ s s') (hz : ¬ S.i 43 = 0) (e : f_X9_advance N S = some R) (g : f_X12_next N s' = some u) : ENV d R.2 (uns u s) ∧ qj u = qj s' ∧ pj R.2 = pj S ∧ u.i 17 = s.i 17 + 1 ∧ (s.i 11).toInt + 1 ≤ (u.i 11).toInt ∧ u.i 20 = s.i 20 ∧ u.a 22 = s.a 22 ∧ R.2.i 22 = S.i 22 ∧ A18 S R.2 ∧ u.i 19 = s.i 19 := by
  have hb := h.1.sez sz
  obtain ⟨b, a, tu, b9⟩ := y_adv hN hb e g
  have q1 := krq_f_X12_next N s' u g
  have q2 := kc_X9_advance N S R e
  obtain ⟨zi, za, zb, zl⟩ := sz
  have vz := uns.z (u := u) (s := s)
  have vn := uns.n (u := u) (s := s)
  have bv := b.sez vz
  obtain ⟨v, hv⟩ : ∃ v, v = uns u s := ⟨_, rfl⟩
  rw [← hv] at vz vn bv ⊢
  clear hv
  obtain ⟨vi, va, vb, vl⟩ := vz
  obtain ⟨v38, v41, v39, -⟩ := vn
  obtain ⟨h1, ⟨n1, n2, n3, n4⟩, ⟨o1, o2, o3⟩, ⟨c1, c2, c3⟩, l1, ⟨m1, m2, m3, m4, m5⟩, ⟨r1, r2, r3, r4, r5, r6, r7, r8, r9, r10, r11⟩⟩ := h
  have e17 : u.i 17 = s.i 17 + 1 := (tu.1 17 (by decide) (by decide) (by decide) (by decide)).trans (by
    show s'.i 17 + 1 = s.i 17 + 1
    rw [zi 17 (by decide) (by decide)])
  have e19 : u.i 19 = s.i 19 := (tu.1 19 (by decide) (by decide) (by decide) (by decide)).trans (zi 19 (by decide) (by decide))
  have e20 : u.i 20 = s.i 20 := (tu.1 20 (by decide) (by decide) (by decide) (by decide)).trans (zi 20 (by decide) (by decide))
  have a22 : u.a 22 = s.a 22 := by
    rw [tu.2.1]
    exact za 22 (by decide) (by decide)
  have c34 : R.2.i 34 = S.i 34 := a.1.2 34 (by decide) (by decide) (by decide) (by decide)
  have c22 : R.2.i 22 = S.i 22 := a.1.2 22 (by decide) (by decide) (by decide) (by decide)
  have c18' : R.2.a 18 = S.a 18 := by rw [a.1.1.2.2.2.2.2.2.2.2.2.2]
  obtain ⟨-, -, -, -, i13, -, i24, i25, i26, -, -, i37, -, i50, -, -, -, -, -, a9, -, a49, -, er, eo, eol, eb, i21, ehk⟩ := pj_eq q2
  obtain ⟨j2, j3, -, j18, -, j29, -, -, -, j43, -, j53, j54, j55, j56, j59, -, -, -, x4, -, -, -, -, -, -, -, -, -, -, -, -, -, -, -, -, -, x58, -, -, x62, -⟩ := qj_eq q1
  have w3 : v.i 3 = s.i 3 := (vi 3 (by decide) (by decide)).trans (j3.trans (zi 3 (by decide) (by decide)))
  have w18 : v.i 18 = s.i 18 := (vi 18 (by decide) (by decide)).trans (j18.trans (zi 18 (by decide) (by decide)))
  have w53 : v.i 53 = s.i 53 := (vi 53 (by decide) (by decide)).trans (j53.trans (zi 53 (by decide) (by decide)))
  have w54 : v.i 54 = s.i 54 := (vi 54 (by decide) (by decide)).trans (j54.trans (zi 54 (by decide) (by decide)))
  have w55 : v.i 55 = s.i 55 := (vi 55 (by decide) (by decide)).trans (j55.trans (zi 55 (by decide) (by decide)))
  have w43 : v.i 43 = s.i 43 := (vi 43 (by decide) (by decide)).trans (j43.trans (zi 43 (by decide) (by decide)))
  have w56 : v.i 56 = s.i 56 := (vi 56 (by decide) (by decide)).trans (j56.trans (zi 56 (by decide) (by decide)))
  have w59 : v.i 59 = s.i 59 := (vi 59 (by decide) (by decide)).trans (j59.trans (zi 59 (by decide) (by decide)))
  have w29 : v.i 29 = s.i 29 := (vi 29 (by decide) (by decide)).trans (j29.trans (zi 29 (by decide) (by decide)))
  have w4 : v.a 4 = s.a 4 := (va 4 (by decide) (by decide)).trans (x4.trans (za 4 (by decide) (by decide)))
  have w58 : v.a 58 = s.a 58 := (va 58 (by decide) (by decide)).trans (x58.trans (za 58 (by decide) (by decide)))
  have w62 : v.a 62 = s.a 62 := (va 62 (by decide) (by decide)).trans (x62.trans (za 62 (by decide) (by decide)))
  have w11 : v.i 11 = u.i 11 := vi 11 (by decide) (by decide)
  have w17 : v.i 17 = s.i 17 + 1 := (vi 17 (by decide) (by decide)).trans e17
  have w19 : v.i 19 = s.i 19 := (vi 19 (by decide) (by decide)).trans e19
  have w20 : v.i 20 = s.i 20 := (vi 20 (by decide) (by decide)).trans e20
  have k12 := h1.2.2.2.1.2.1
  have k11 := h1.2.2.2.1.1
  have lc := h1.2.2.2.2.2.2.1.2.2.2.1 hz
  rw [k11, k12] at lc
  rw [zi 12 (by decide) (by decide)] at b9
  have f1 : (s.i 11).toInt + 1 ≤ (u.i 11).toInt := by omega
  have c18 : A18 S R.2 := ⟨c18', by rw [k11, b.2.2.2.1.1]; omega⟩
  have t17 : (s.i 17 + 1).toInt = (s.i 17).toInt + 1 := by
    have := h1.2.2.2.2.1
    have := h1.2.2.1.2.1
    have e1 : (1 : Int32).toInt = 1 := by decide
    unfold phI at r2
    rw [toInt_add] <;> rw [e1] <;> omega
  refine ⟨⟨bv, ⟨by rw [i50, v38]; exact n1, by rw [v38, w11]; omega, fun k hk => by rw [v38] at hk; rw [eb, a49, v39, v41]; exact n3 k hk, fun j k hj hk => by rw [v38] at hk; rw [v39]; exact n4 j k hj hk⟩, ⟨by rw [c34, w19]; exact o1, by rw [w19]; exact o2, by rw [w19]; exact o3⟩, ⟨by rw [i24, w53]; exact c1, by rw [i26, w55]; exact c2, by rw [i25, w54]; exact c3⟩, by unfold LTE at *; rw [i37, w18]; exact l1, ⟨by rw [i13, w3]; exact m1, by rw [a9]; exact m2, fun k h1 h2 => by rw [w3] at h2; rw [a9, w4]; exact m3 k h1 h2, by rw [w3]; exact m4, fun k h1 h2 => by rw [w3] at h2; rw [w4]; exact m5 k h1 h2⟩, ⟨by rw [w20]; exact r1, by unfold phI at *; rw [w20, w17, t17]; omega, by rw [w17, t17, w11]; omega, by rw [c22]; exact r4, by rw [c22, w11]; omega, by rw [i21]; exact r6, by rw [i21, w11]; omega, r8.kp q2 (by unfold sgI; rw [c34]; exact Int.le_refl _) ((ADV.gain h1.2.2.2.2.2.2.1 a).2.1 hz).2, (r9.kp q2 rfl).up (by rw [w11]; omega), r10.of (by rw [w43]; exact Int.le_refl _) w56 w59 w29 w58 w62, r11.adv hN h1.2.2.2.2.2.2.1 h1.2.2.2.2.2.2.2 eb e⟩⟩, q1, q2, e17, f1, e20, a22, c22, c18, e19⟩
/-- the sign closes, the name is told: in the class in this order, in the reference in the other -/
theorem ro_shut {N : Nat} (hN : 1000 ≤ N) {d d0 : Int32} {T : Nat} {p f k y z : Int} {S P D : CS} {s u : RS} {l : Int64} {C : Unit × CS} {w : Int32 × CS} {v V : Int32 × RS} (h : WAY (d + 1) T p f k y z S s P u) (hs : ENV d0 S s) (hk : 1 ≤ k) (hp : 8 ≤ p) (h8 : 8 * ((s.i 38).toInt - 2) ≤ (s.i 11).toInt) (hn : ∀ k : Nat, (k : Int) < (u.i 38).toInt → ¬ u.b 39 k = l) (e1 : f_X1_close N P 41 = some C) (hD : pj2 D = pj2 C.2) (e2 : f_X7_tell N D l = some w) (g1 : f_X12_see N u l 0 = some v) (g2 : f_X12_shut N v.2 41 = some V) : (V.1 = 0 ∧ ¬ C.2.i 32 = 0 ∧ ¬ V.2.i 15 = 0) ∨ (V.1 = 1 ∧ WAZ d T (p + 1) (f + 3) (k - 1) (y - 2) (z + 1) S s w.2 V.2 ∧ (∀ r : Nat, FRB r u V.2) ∧ V.2.i 20 = u.i 20 ∧ ((u.i 11).toInt + 1 ≤ (V.2.i 11).toInt ∧ C.2.i 44 = V.2.i 11 ∧ V.2.i 38 = v.2.i 38 ∧ V.2.a 40 = v.2.a 40)) := by
  have sg := h.sg hs
  obtain ⟨gz, gs1, gsi, gsa, gsb, gsl, gsr⟩ := y_see g1
  have sz : SEZ u v.2 := ⟨gsi, gsa, gsb, gsl⟩
  have is := h.1.1.2.2.2.1.is (c := 41) (d := 41) (Or.inl ⟨by decide, by decide⟩) (by decide)
  have hb := h.1.1.sez sz
  have h15 := hb.2.1
  have ho := h.1.2.2.1
  have e1' : (1 : Int32).toInt = 1 := by decide
  unfold f_X12_shut f_X12_shut_18 f_X12_need f_X12_need_27 f_X12_need_31 at g2
  rw [if_pos h15] at g2
  have v10 : v.2.i 10 = u.i 10 := gsi 10 (by decide) (by decide)
  by_cases kk : P.i 43 = 41
  · have k' : v.2.i 10 = 41 := v10.trans (is.mp kk)
    unfold f_X1_close f_X1_close_22 at e1
    rw [e_fnd1 kk, ob_some, if_neg n10] at e1
    rw [if_pos k', y_can1 h15 (by rw [k']; decide), ob_some, if_neg n10] at g2
    obtain ⟨pp, ep, e1⟩ := hf_bind e1
    obtain ⟨w2, gw, g2⟩ := hf_bind g2
    obtain ⟨q, gq, gw⟩ := hf_bind gw
    obtain ⟨a1, a2, a3, a4, a5, a6, a7, a8, a9, a10⟩ := h.1.adv2 hN sz (by rw [kk]; decide) ep gq
    have q15 : q.i 15 = 0 := by
      have z1 := a1.1.2.1
      rw [(uns.z (u := q) (s := u)).1 15 (by decide) (by decide)] at z1
      exact z1
    rw [if_pos q15] at gw
    cases gw
    have g3 : (if (RS.setI q 19 (q.i 19 - 1)).i 15 = 0 then some ((1 : Int32), RS.setI q 19 (q.i 19 - 1)) else some (0, RS.setI q 19 (q.i 19 - 1))) = some V := (if_neg n10).symm.trans g2
    rw [if_pos (show (RS.setI q 19 (q.i 19 - 1)).i 15 = 0 from q15)] at g3
    cases e1
    cases g3
    have sg0 : 1 ≤ (u.i 19).toInt := by
      have := (BAS (s := P) (cnI P).toNat).2.2.2.1
      unfold sgI at sg
      rw [ho.1] at sg
      omega
    have s19 : (q.i 19 - 1).toInt = (u.i 19).toInt - 1 := by
      rw [a10, toInt_sub] <;> rw [e1'] <;> omega
    have o2 := a1.2.2.1
    have u19 : (uns q u).i 19 = q.i 19 := uns.z.1 19 (by decide) (by decide)
    have ck1 := CKX.of a3 a8 a9
    have ev1 : ENV (d + 1) (CS.setI pp.2 34 (pp.2.i 34 - 1)) (RS.setI (uns q u) 19 (q.i 19 - 1)) := a1.sg (by rw [o2.1, u19]) (by omega) (by omega) (by
      rw [(ck1.sum h.1.ri).1, o2.1, u19, s19]
      unfold sgI at sg
      rw [ho.1] at sg
      omega)
    have ev2 := ev1.kd hD
    -- the names
    obtain ⟨u2, hu2⟩ : ∃ y, y = RS.setI (uns q u) 19 (q.i 19 - 1) := ⟨_, rfl⟩
    have u2i : ∀ k : Nat, k ≠ 38 → k ≠ 42 → k ≠ 19 → u2.i k = q.i k := fun k h1 h2 h3 => by
      rw [hu2]
      exact (show (RS.setI (uns q u) 19 (q.i 19 - 1)).i k = (uns q u).i k from if_neg h3).trans (uns.z.1 k h1 h2)
    have u2n : u2.i 38 = u.i 38 ∧ u2.a 41 = u.a 41 ∧ u2.b 39 = u.b 39 := by
      rw [hu2]
      exact ⟨(uns.n (u := q) (s := u)).1, (uns.n (u := q) (s := u)).2.1, (uns.n (u := q) (s := u)).2.2.1⟩
    have u2a : ∀ k : Nat, k ≠ 40 → k ≠ 41 → u2.a k = q.a k := by
      rw [hu2]
      exact fun k h1 h2 => uns.z.2.1 k h1 h2
    have u2b : ∀ k : Nat, k ≠ 39 → u2.b k = q.b k := by
      rw [hu2]
      exact fun k h1 => uns.z.2.2.1 k h1
    have u2l : u2.l = q.l := by rw [hu2]; rfl
    have u219 : u2.i 19 = q.i 19 - 1 := by
      rw [hu2]
      rfl
    rw [← hu2] at ev2
    clear hu2
    have hse : ∃ z2 : Int32 × RS, f_X12_see N u2 l 0 = some z2 ∧ z2.2.i 38 = u.i 38 + 1 ∧ z2.2.b 39 = vp_updL (u.b 39) (u.i 38).toNatClampNeg l ∧ z2.2.a 41 = upd (u.a 41) (u.i 38).toNatClampNeg (vp_nar .boolean 0) ∧ (∀ k : Nat, k ≠ 38 → k ≠ 42 → z2.2.i k = u2.i k) ∧ (∀ k : Nat, k ≠ 40 → k ≠ 41 → z2.2.a k = u2.a k) ∧ (∀ k : Nat, k ≠ 39 → z2.2.b k = u2.b k) ∧ z2.2.l = u2.l := by
      have ib0 : ib (u2.i 38) 460 := by rw [u2n.1]; exact gz
      refine ⟨_, (show f_X12_see N u2 l 0 = some _ from if_pos ib0), ?_, ?_, ?_, fun k h1 h2 => (if_neg h2).trans (if_neg h1), fun k h1 h2 => (if_neg h2).trans (if_neg h1), fun k h => if_neg h, rfl⟩
      · show u2.i 38 + 1 = u.i 38 + 1
        rw [u2n.1]
      · show vp_updL (u2.b 39) (u2.i 38).toNatClampNeg l = _
        rw [u2n.1, u2n.2.2]
      · show upd (u2.a 41) (u2.i 38).toNatClampNeg (vp_nar .boolean 0) = _
        rw [u2n.1, u2n.2.1]
    obtain ⟨z2, hz2, z38, zb39, za41, zi, za, zb, zl⟩ := hse
    obtain ⟨h1, h2, h3, h4, h5, ⟨i1, i2, i3, i4, i5⟩, ⟨n1, n2, n3, n4⟩, ⟨r1, r2, r3⟩⟩ := h
    obtain ⟨t1, t2, t3, t4, t5, t6, t7, t8, t9, t10⟩ := h4.1.1
    have q11 : u2.i 11 = q.i 11 := u2i 11 (by decide) (by decide) (by decide)
    obtain ⟨y1, y2, y3, y4, y5, y6⟩ := y_tell ev2 (by rw [u2n.1, t4, q11]; omega) (fun k hk => by rw [u2n.1] at hk; rw [u2n.2.2]; exact hn k hk) e2 hz2
    -- the reference's own state
    obtain ⟨x2, x3, x8, x18, x24, x29, x33, x38, x42, x43, x52, x53, x54, x55, x56, x59, x63, x75, xa1, xa4, xa25, xa26, xa27, xa28, xa30, xa34, xa37, xa40, xa41, xa44, xa46, xa47, xa48, xa49, xa50, xa51, xa57, xa58, xa60, xa61, xa62, xa64, xa65, xa66, xa67, xa68, xa69, xa70, xa71, xa72, xa73, xb9, xb39, xb45, xb74⟩ := qj_eq a2
    have vse : v.2.b 39 = vp_updL (u.b 39) (u.i 38).toNatClampNeg l ∧ v.2.a 41 = upd (u.a 41) (u.i 38).toNatClampNeg (vp_nar .boolean 0) := by
      unfold f_X12_see at g1
      obtain ⟨-, g1⟩ := hf_ite g1
      cases g1
      exact ⟨rfl, rfl⟩
    obtain ⟨Y, hY⟩ : ∃ Y, Y = RS.setI q 19 (q.i 19 - 1) := ⟨_, rfl⟩
    have Yi : ∀ k : Nat, k ≠ 19 → Y.i k = q.i k := by
      rw [hY]
      exact fun k h => if_neg h
    have Y19 : Y.i 19 = q.i 19 - 1 := by
      rw [hY]
      rfl
    have Ya : Y.a = q.a := by rw [hY]; rfl
    have Yb : Y.b = q.b := by rw [hY]; rfl
    have Yl : Y.l = q.l := by rw [hY]; rfl
    show _ ∨ ((1 : Int32) = 1 ∧ WAZ d T (p + 1) (f + 3) (k - 1) (y - 2) (z + 1) S s w.2 (RS.setI q 19 (q.i 19 - 1)) ∧ (∀ r : Nat, FRB r u (RS.setI q 19 (q.i 19 - 1))) ∧ (RS.setI q 19 (q.i 19 - 1)).i 20 = u.i 20 ∧ ((u.i 11).toInt + 1 ≤ ((RS.setI q 19 (q.i 19 - 1)).i 11).toInt ∧ pp.2.i 44 = (RS.setI q 19 (q.i 19 - 1)).i 11 ∧ (RS.setI q 19 (q.i 19 - 1)).i 38 = v.2.i 38 ∧ (RS.setI q 19 (q.i 19 - 1)).a 40 = v.2.a 40))
    rw [← hY]
    clear hY
    have zY : ∀ k : Nat, k ≠ 38 → k ≠ 42 → k ≠ 19 → Y.i k = z2.2.i k := fun k h1 h2 h3 => (Yi k h3).trans ((u2i k h1 h2 h3).symm.trans (zi k h1 h2).symm)
    have aY : ∀ k : Nat, k ≠ 40 → k ≠ 41 → Y.a k = z2.2.a k := fun k h1 h2 => by
      rw [Ya, za k h1 h2, u2a k h1 h2]
    have bY : ∀ k : Nat, k ≠ 39 → Y.b k = z2.2.b k := fun k h1 => by
      rw [Yb, zb k h1, u2b k h1]
    have evY : ENV d w.2 Y := by
      refine y1.kq ?_ (zY 2 (by decide) (by decide) (by decide)) (zY 3 (by decide) (by decide) (by decide)) (zY 18 (by decide) (by decide) (by decide)) (zY 53 (by decide) (by decide) (by decide)) (zY 54 (by decide) (by decide) (by decide)) (zY 55 (by decide) (by decide) (by decide)) (aY 1 (by decide) (by decide)) (aY 4 (by decide) (by decide)) ?_ (bY 9 (by decide)) ?_ (zY 10 (by decide) (by decide) (by decide)) (zY 11 (by decide) (by decide) (by decide)) (zY 12 (by decide) (by decide) (by decide)) (zY 14 (by decide) (by decide) (by decide)) (zY 15 (by decide) (by decide) (by decide)) (zY 17 (by decide) (by decide) (by decide)) ?_ ?_ ?_ ?_
      · rw [Yi 38 (by decide), x38, gs1, z38]
      · rw [Ya, xa41, vse.2, za41]
      · rw [Yb, xb39, vse.1, zb39]
      · rw [Y19, zi 19 (by decide) (by decide), u219]
      · rw [Yl, zl, u2l]
      · have p1 : phI Y = phI z2.2 := by
          unfold phI
          rw [zY 17 (by decide) (by decide) (by decide), zY 20 (by decide) (by decide) (by decide)]
        rw [zY 20 (by decide) (by decide) (by decide), p1]
        exact ⟨y1.2.2.2.2.2.2.1, y1.2.2.2.2.2.2.2.1⟩
      · exact y1.wp.of (by rw [zY 43 (by decide) (by decide) (by decide)]; exact Int.le_refl _) (zY 56 (by decide) (by decide) (by decide)) (zY 59 (by decide) (by decide) (by decide)) (zY 29 (by decide) (by decide) (by decide)) (aY 58 (by decide) (by decide)) (aY 62 (by decide) (by decide))
    obtain ⟨b1, b2, ⟨m1, m2, m3, m4, m5, m6, m7, m8, m9⟩, b4, b5, b6⟩ := see_tbr g1
    have tb2 : TBZ v.2 q := TBZ.of a2
    have qY : TBR q Y := by
      unfold TBR
      rw [Ya, Yb, Yi 59 (by decide), Yi 29 (by decide), Yi 33 (by decide), Yi 24 (by decide)]
      exact ⟨fun _ _ => ⟨rfl, rfl, rfl⟩, fun _ _ => ⟨rfl, rfl, rfl, rfl, rfl, rfl, rfl, rfl⟩, fun _ _ => ⟨rfl, rfl⟩, ⟨Int.le_refl _, fun j k1 k2 => by omega⟩, fun _ _ => ⟨rfl, rfl, rfl⟩, Int.le_refl _, fun _ _ => rfl, Int.le_refl _, fun _ _ => ⟨rfl, rfl⟩, Int.le_refl _, fun _ _ => ⟨rfl, rfl, rfl⟩⟩
    have frY : ∀ r : Nat, FRB r u Y := fun r j hj => by
      have z1 := b4 r j hj
      rw [Ya, Yb, xa64, xa65, xa66, xa67, xa68, xa69, xa70, xa71, xa72, xa73, xb74]
      exact z1
    have i20Y : Y.i 20 = u.i 20 := (Yi 20 (by decide)).trans a6
    have i11Y : Y.i 11 = q.i 11 := Yi 11 (by decide)
    have t17 : (u.i 17 + 1).toInt = (u.i 17).toInt + 1 := t17_up (N := N) h1
    have phY : phI Y = phI u + 3 := by
      unfold phI
      rw [i20Y, Yi 17 (by decide), a4, t17]
      omega
    have tY : tpI Y = (T : Int) := by
      show (Y.i 63).toInt = (T : Int)
      rw [Yi 63 (by decide), x63, gsi 63 (by decide) (by decide)]
      exact h2
    -- the class
    have kp := pj2_eq hD
    have ckC : CKX P pp.2 := ck1
    have ckD : CKX (CS.setI pp.2 34 (pp.2.i 34 - 1)) D := CKX.of kp.1 kp.2.2.2.2.1 kp.2.2.2.2.2.2.2.2.2.2.2
    have zP : CKZ P pp.2 := ckC.z
    have zD : CKZ pp.2 D := ckD.z
    have zW : CKZ D w.2 := y2.z
    have d38 : D.i 38 = pp.2.i 38 := ckD.1.2.2.1
    have d53 : D.i 53 = pp.2.i 53 := ckD.1.2.2.2.2.1
    have d56 : D.i 56 = pp.2.i 56 := ckD.1.2.2.2.2.2
    have d36 : D.i 36 = pp.2.i 36 := ckD.1.2.1
    have w38 : w.2.i 38 = D.i 38 := y2.1.2.2.1
    have w53 : w.2.i 53 = D.i 53 := y2.1.2.2.2.2.1
    have w56 : w.2.i 56 = D.i 56 := y2.1.2.2.2.2.2
    obtain ⟨⟨c1, c2, c3, c4, c5, c6⟩, -⟩ := id ckC
    have rt1 : RTE P pp.2 := ckC.2.2.2.2.2.2.2.2
    have rt2 : RTE pp.2 D := ckD.2.2.2.2.2.2.2.2
    have rt3 : RTE D w.2 := y2.2.2.2.2.2.2.2.2
    have e21 : pp.2.i 21 = P.i 21 := pj_21 a3
    have e54 : pp.2.i 54 = P.i 54 := pj_54 a3
    have kP := h1.1.2.2.2.1.1
    have kW := evY.1.2.2.2.1.1
    have kpp : pp.2.i 44 = q.i 11 := by
      have z1 := a1.1.2.2.2.1.1
      rw [uns.z.1 11 (by decide) (by decide)] at z1
      exact z1
    unfold RTE at rt1 rt2 rt3
    rw [kP] at rt1
    rw [kW, i11Y] at rt3
    rw [kpp] at rt1 rt2
    have e21D : D.i 21 = pp.2.i 21 := pj_21 kp.1
    have e54D : D.i 54 = pp.2.i 54 := pj_54 kp.1
    rw [e21] at e21D
    rw [e54] at e54D
    have D21 : (D.i 21).toInt = (P.i 21).toInt := by rw [e21D]
    have D54 : (D.i 54).toInt = (P.i 54).toInt := by rw [e54D]
    have eD44 : D.i 44 = q.i 11 := (kp.2.2.2.2.2.2.2.2.1).trans kpp
    rw [eD44] at rt2 rt3
    refine Or.inr ⟨rfl, ⟨evY, tY, h3.tr (frY T), ⟨((h4.1.r.tr b1 (by rw [t4]; exact Int.le_refl _) (by rw [t5]; exact Int.le_refl _) (by rw [t7]; exact Int.le_refl _)).tr tb2.r (by rw [b6, t4]; omega) (by rw [m4, t5]; exact Int.le_refl _) (by rw [m6, t7]; exact Int.le_refl _)).tr qY (by rw [x38, b6, t4]; omega) (by rw [x43, m4, t5]; exact Int.le_refl _) (by rw [x56, m6, t7]; exact Int.le_refl _), ⟨by rw [i20Y]; exact h4.2.1, fun j hj => by rw [Ya, a7]; exact h4.2.2 j hj⟩, ⟨?_, ?_, ?_, ?_, ?_, ?_, ?_, ?_, ?_⟩⟩, (h5.tr i3 zP).tr (c5.trans i3) (zD.tr d53 zW), ⟨w38.trans (d38.trans (c3.trans i1)), w53.trans (d53.trans (c5.trans i3)), w56.trans (d56.trans (c6.trans i4)), y6.trans (d36.trans (c2.trans i5))⟩, ⟨by rw [i11Y]; omega, by rw [phY]; omega, by rw [Yi 17 (by decide), a4, t17]; omega, by rw [Y19, s19]; omega⟩, ⟨by rw [i11Y]; omega, by rw [i11Y]; omega, by rw [i11Y]; omega⟩, ⟨by rw [Yi 38 (by decide), x38, b6, t4]; omega, fun _ => by rw [Yi 38 (by decide), x38, b6, t4, i11Y]; omega⟩⟩, frY, i20Y, by rw [i11Y]; exact a5, by rw [kpp, i11Y], by rw [Yi 38 (by decide)]; exact x38, by rw [Ya]; exact xa40⟩
    · rw [Yi 2 (by decide), x2, m1, t1]
    · rw [Yi 3 (by decide), x3, m2, t2]
    · rw [Yi 8 (by decide), x8, m3, t3]
    · rw [Yi 43 (by decide), x43, m4, t5]
    · rw [Yi 2 (by decide), x2, m5, t6]
    · rw [Yi 56 (by decide), x56, m6, t7]
    · rw [Ya, xa1, m7, t8]
    · rw [Ya, xa4, m8, t9]
    · rw [Yb, xb9, m9, t10]
  · have k' : ¬ v.2.i 10 = 41 := fun q => kk (is.mpr (v10.symm.trans q))
    rw [if_neg k'] at g2
    obtain ⟨w2, gw, g2⟩ := hf_bind g2
    obtain ⟨q, gq, gw⟩ := hf_bind gw
    obtain ⟨q1, q2⟩ := y_can0 gq
    rw [if_pos q1, if_neg q2] at gw
    cases gw
    have g3 : (if q.2.i 15 = 0 then some ((1 : Int32), q.2) else some (0, q.2)) = some V := (if_pos rfl).symm.trans g2
    rw [if_neg q2] at g3
    cases g3
    exact Or.inl ⟨rfl, y_cl0 kk e1, q2⟩
end
section
/-! both readers: for over a row -/
theorem nc_kd {N : Nat} {S : CS} {x : Int32} {a : Int32 × CS} (e : f_X0_newCells N S x = some a) : pj2 a.2 = pj2 S := kd_X0_newCells N S x a e
theorem WAY.kd {d : Int32} {T : Nat} {p f k y z : Int} {S P R : CS} {s q : RS} (h : WAY d T p f k y z S s P q) (e : pj2 R = pj2 P) : WAY d T p f k y z S s R q := by
  have kp := pj2_eq e
  exact (h.cx (p1 := 0) (f1 := 0) (k1 := 0) (h.1.kd e) h.2.1 (FRB.rf _ _) (TBK.rf _) (CKX.of kp.1 kp.2.2.2.2.1 kp.2.2.2.2.2.2.2.2.2.2.2) ⟨by omega, by omega, Int.le_refl _, by omega⟩).nu (by omega) (by omega) (by omega) (by omega) (by omega)
/-- good here, with a row of values open, gives Z -/
def JQE (U : RS) (δ x y p q : Nat) (Z : JKT) : JKT := fun FC SF nm X ω j z => (∀ g : Nat, GU FC SF U nm X p q j.h (ω + j.l + δ - p) g ((4, j.h, x, y, 0, 0, 0) :: j.c)) → Z FC SF nm X ω j z
/-- the row's values are there -/
def RWJ (JJ : Prop) (A : JBA) (U : RS) (B : CS) (b : RS) (V0 : List RVW) (s : RS) (W0 : List RVW) (W : Int32 × CS) (u : RS) : Prop := JJ → ∃ cnt : Int32, 0 ≤ cnt.toInt ∧ cnt.toInt ≤ 900 ∧ JRG A U B b V0 s (cv W.1 cnt :: W0) (JAN (JRO W.1 cnt) (JQE U 1264 W.1.toNatClampNeg cnt.toNatClampNeg (pcC W.2) (pcR u) JQZ)) (-5) (-2) W.2 u
/-- the values of a row: from behind one of them -/
theorem ro_vals {N : Nat} (hN : 1000 ≤ N) {E1 : CS → Option (Unit × CS)} {E2 : CS → Option (Int32 × CS)} (hm1 : ∀ σ, Kf (CS.i σ 32) (E1 σ)) (hm2 : ∀ σ, Kf (CS.i σ 32) (E2 σ)) (hE : SXR N 18 E1) {d : Int32} {T : Nat} {S : CS} {s U : RS} {v71 : Int32} {l : Int64} {JJ : Prop} {A : JBA} {B : CS} {b : RS} {V0 W0 : List RVW} (hph : 0 ≤ phI s) (hs11 : 0 ≤ (s.i 11).toInt) : ∀ (n : Nat) (P : CS) (q : RS) (m : Nat) (x1 x2 : Int32) (W : Int32 × CS) (mm : Nat), (x1.toInt = (mm : Int) ∧ q.a 68 T + 1 = x1) → (s.i 11).toInt + 7 + 2 * (mm : Int) ≤ (q.i 11).toInt → (JJ → JRG A U B b V0 s W0 (JQG U 1264 mm 0 (pcC P) (pcR q) JQZ) (-7 - (mm : Int)) (-6 - 2 * (mm : Int)) P q) → WAY d T 9 15 1 (-4) 3 S s P q → q.a 64 T = 12 → q.a 65 T = 10 → q.a 71 T = v71 → q.b 74 T = l → 0 ≤ x2.toInt → x2.toInt ≤ (q.i 11).toInt → f_X7_rowValues_31 N E1 E2 n P x1 x2 = some W → f_X12_parse_10 N m q = some U → (¬ W.2.i 32 = 0 ∧ ¬ U.i 15 = 0) ∨ ∃ (m : Nat) (u : RS), f_X12_parse_10 N m u = some U ∧ WAY d T 9 14 1 (-4) 3 S s W.2 u ∧ u.a 64 T = 12 ∧ u.a 65 T = 12 ∧ u.a 71 T = v71 ∧ u.b 74 T = l ∧ RWJ JJ A U B b V0 s W0 W u
  | 0, _, _, _, _, _, _, _, _, _, _, _, _, _, _, _, _, _, e, _ => by cases e
  | n + 1, P, q, m, x1, x2, W, mm, hmm, h2m, jg, w, k64, k65, k71, k74, hx0, hx, e, g => by
    have e' : b_X7_rowValues_31 N E1 E2 (f_X7_rowValues_31 N E1 E2 n) P x1 x2 = some W := e
    unfold b_X7_rowValues_31 at e'
    have i44 := tk_is w.1 (a := 44) (b := 44) (Or.inl ⟨by decide, by decide⟩) (by decide)
    obtain ⟨m2, V, hV, g2⟩ := rl_12 g w.2.1 w.1.1.2.1 k64
    unfold f_X12_fors at hV
    obtain ⟨-, hV⟩ := hf_ite hV
    rw [tp_nat w.2.1, if_neg (show ¬ q.a 65 T = 0 by rw [k65]; decide), if_neg (show ¬ q.a 65 T = 1 by rw [k65]; decide), if_neg (show ¬ q.a 65 T = 2 by rw [k65]; decide), if_neg (show ¬ q.a 65 T = 3 by rw [k65]; decide), if_neg (show ¬ q.a 65 T = 4 by rw [k65]; decide), if_neg (show ¬ q.a 65 T = 5 by rw [k65]; decide), if_neg (show ¬ q.a 65 T = 6 by rw [k65]; decide), if_neg (show ¬ q.a 65 T = 7 by rw [k65]; decide), if_neg (show ¬ q.a 65 T = 8 by rw [k65]; decide), ob_id] at hV
    unfold f_X12_rows at hV
    obtain ⟨-, hV⟩ := hf_ite hV
    rw [tp_nat w.2.1, if_pos k65] at hV
    have w1 := w.sa (j := 68) (v := q.a 68 T + 1) ⟨by omega, by omega⟩
    have np := w1.2.2.2.2.2.2.1.2.1
    by_cases c : P.i 43 = 44
    · -- one more
      have k := i44.mp c
      have n9 : ¬ (900 : Int32) ≤ x2 := fun z => by
        have := no_900 w.1 hx z
        rw [c] at this
        exact absurd this (by decide)
      rw [if_neg n9] at e'
      rw [if_pos k] at hV
      obtain ⟨v, ev, e'⟩ := hf_bind e'
      obtain ⟨av, eav, hv⟩ := e_skip1 c ev
      rw [hv, if_neg n10] at e'
      obtain ⟨p28, e28, e'⟩ := hf_bind e'
      obtain ⟨nx, hnx, hV⟩ := hf_bind hV
      rw [ob_id] at hV
      obtain ⟨w2, f2⟩ := w1.nx hN (by rw [c]; decide) eav hnx
      have np2 := w2.2.2.2.2.2.2.1.2.1
      have n112 := w2.2.2.2.2.2.2.1.1
      rcases y_expr hN hm1 hm2 hE w2.1 w2.2.1 (by omega) e28 hV g2 with ⟨z1, z2⟩ | ⟨m3, u, g3, xo, xc⟩
      · refine Or.inl ⟨?_, z2⟩
        rw [kF_X7_rowValues_31 N E1 E2 hm1 hm2 n p28.2 _ _ W e' z1]
        exact z1
      have w3 := w2.exo xo
      obtain ⟨ft2, -⟩ := FRB.ft (T := T) f2
      obtain ⟨ft3, u65⟩ := xo.ft
      have ft := ft2.tr ft3
      have q11 : (q.i 11).toInt + 1 ≤ (u.i 11).toInt := by
        have z1 : ((RS.setA q 68 T (q.a 68 T + 1)).i 11).toInt + 1 ≤ (nx.i 11).toInt := (y_nx hN w1.1 w1.2.1 (by rw [c]; decide) eav hnx).2.2.2.2.2.1
        have z2 := xo.2.2.2.2.2.2.1
        have z3 : (RS.setA q 68 T (q.a 68 T + 1)).i 11 = q.i 11 := rfl
        rw [z3] at z1
        omega
      have x21 : (x2 + 1).toInt = x2.toInt + 1 := ad1 hx0 (by have := (i11_hi w.1).2; omega)
      have m11 := (i11_hi w.1).2
      have x11 : (x1 + 1).toInt = x1.toInt + 1 := ad1 (by omega) (by omega)
      have q11' : (q.i 11).toInt + 2 ≤ (u.i 11).toInt := by
        have z1 : ((RS.setA q 68 T (q.a 68 T + 1)).i 11).toInt + 1 ≤ (nx.i 11).toInt := (y_nx hN w1.1 w1.2.1 (by rw [c]; decide) eav hnx).2.2.2.2.2.1
        have z2 := xo.2.2.2.2.2.2.1
        have z3 : (RS.setA q 68 T (q.a 68 T + 1)).i 11 = q.i 11 := rfl
        rw [z3] at z1
        omega
      have nx11 : (q.i 11).toInt + 1 ≤ (nx.i 11).toInt := (y_nx hN w1.1 w1.2.1 (by rw [c]; decide) eav hnx).2.2.2.2.2.1
      have nx19 := w2.l19
      have e68 : u.a 68 T = x1 := (ft.2.2.2.1.trans setA_at).trans hmm.2
      have pca : pcC av.2 = pcC P := pcC.pe (ke_X9_advance N P av eav)
      have prn : pcR nx = pcR q := pcR.qe (kre_f_X12_next N (RS.setA q 68 T (q.a 68 T + 1)) nx hnx)
      have jg' : JJ → JRG A U B b V0 s W0 (JQG U 1264 (mm + 1) 0 (pcC p28.2) (pcR u) JQZ) (-7 - ((mm + 1 : Nat) : Int)) (-6 - 2 * ((mm + 1 : Nat) : Int)) p28.2 u := fun hJ => by
        have j1 := ((jg hJ).se (u := RS.setA q 68 T (q.a 68 T + 1)) rfl ⟨rfl, fun _ _ => rfl⟩).adv hN w1.1 (by rw [c]; decide) eav hnx
        have j2 := j1.imp (a1 := -8 - (mm : Int)) (e1 := -7 - 2 * (mm : Int)) (K' := JAN JTT (JQA U 1264 mm (pcC av.2) (pcR nx) JQZ)) (by omega) (by omega) (fun _ _ _ _ _ _ _ _ _ _ _ _ _ k => ⟨True.intro, fun q => k (by rw [← pca, ← prn]; exact q 0)⟩)
        have j3 := j2.frm w2.1 xo xc (by omega) (by omega) (by omega) (by omega) (by omega)
        exact j3.imp (by omega) (by omega) (fun _ _ _ _ _ _ _ _ _ _ _ _ _ k => k.2)
      exact ro_vals hN hm1 hm2 hE hph hs11 n p28.2 u m3 (x1 + 1) (x2 + 1) W (mm + 1) ⟨by omega, by rw [e68]⟩ (by omega) jg' (w3.nu (by omega) (by omega) (by omega) (by omega) (by omega)) (ft.1.trans k64) u65 (ft.2.2.2.2.2.2.1.trans k71) (by
        rw [xo.2.2.1.2.2.2.2.2.2.2.2.2.2, (f2 (T + 1) T (by omega)).2.2.2.2.2.2.2.2.2.2]
        exact k74) (by omega) (by omega) e' g3
    · -- the last one
      have k : ¬ q.i 10 = 44 := fun z => c (i44.mpr z)
      rw [if_neg k] at hV
      obtain ⟨em, hem, hV⟩ := hf_bind hV
      cases hV
      have e60 : f_X7_rowValues_60 N E1 E2 P x1 = some W := by
        by_cases n9 : (900 : Int32) ≤ x2
        · rw [if_pos n9] at e'
          exact e'
        · rw [if_neg n9, e_skip0 c, ob_some, if_pos rfl] at e'
          exact e'
      unfold f_X7_rowValues_60 at e60
      obtain ⟨a, ea, e60⟩ := hf_bind e60
      obtain ⟨a2, ea2, e60⟩ := hf_bind e60
      obtain ⟨a3, ea3, e60⟩ := hf_bind e60
      cases e60
      obtain ⟨w2, f2, -, -, -⟩ := w1.em (by omega) hem
      obtain ⟨ft2, -⟩ := FRB.ft (T := T) f2
      have w3 : WAY d T 9 14 1 (-4) 3 S s a3.2 (RS.setA em.2 65 T 12) := ((((w2.kd (nc_kd ea)).ad ea2).ad ea3).sa (j := 65) (v := 12) ⟨by omega, by omega⟩).nu (by omega) (by omega) (by omega) (by omega) (by omega)
      refine Or.inr ⟨m2, _, g2, w3, ft2.1.trans k64, setA_at, ft2.2.2.2.2.2.2.1.trans k71, ?_, fun hJ => ?_⟩
      · show em.2.b 74 T = l
        rw [(f2 (T + 1) T (by omega)).2.2.2.2.2.2.2.2.2.2]
        exact k74
      · have m11 := (i11_hi w.1).2
        have e2' : (2 : Int32).toInt = 2 := by decide
        have nn : (2 + x1).toInt = 2 + (mm : Int) := by
          rw [toInt_add] <;> rw [e2', hmm.1] <;> omega
        have nc : (2 + x1 - 2).toInt = (mm : Int) := by
          rw [toInt_sub] <;> rw [e2', nn] <;> omega
        have g44 : (P.i 44).toInt = (q.i 11).toInt := by rw [w.1.p44.1]
        have ia : a.2.i 44 = P.i 44 ∧ a.2.i 20 = P.i 20 := by
          unfold f_X0_newCells at ea
          cases ea
          exact ⟨rfl, rfl⟩
        have ia2 : a2.2.i 44 = a.2.i 44 := by
          unfold f_X0_add at ea2
          cases ea2
          rfl
        have p20 := w.1.p20
        have j1 := (jg hJ).ncl ea (by omega) (by omega) (by omega) (by omega)
        have j2 := (j1.add ea2 (by rw [ia.1]; omega) (by omega)).add ea3 (by rw [ia2, ia.1]; omega) (by omega)
        have j3 := (j2.se (u := RS.setA q 68 T (q.a 68 T + 1)) rfl ⟨rfl, fun _ _ => rfl⟩).emt hem ⟨p20.1, by show (q.i 20).toInt < 3000; omega⟩
        have pca : pcC a.2 = pcC P := by unfold pcC; rw [ia.2]
        have j4 := j3.imp (a1 := -5) (e1 := -2) (K' := JAN (JRO a.1 (2 + x1 - 2)) (JQE U 1264 a.1.toNatClampNeg (2 + x1 - 2).toNatClampNeg (pcC a3.2) (pcR em.2) JQZ)) (by omega) (by omega) (fun FC SF nm X ω j Z hc hh tyc tl hω r12 k => by
          obtain ⟨⟨u1, u2, u3, u4, u5⟩, ⟨s1, s2, s3, s4⟩, ⟨t1, t2, t3, t4⟩, c2, ro, kk⟩ := k
          have c1 : 0 ≤ a.1.toInt := ro.1
          have u1' : U.a 21 (pcR q) = 23 := u1
          have u2' : U.a 22 (pcR q) = q.a 68 T + 1 := u2.trans (if_pos rfl)
          have u4' : ((pcR q : Nat) : Int) < (U.i 20).toInt ∧ (U.i 20).toInt ≤ 3000 := u4
          have u5' : pcR em.2 = pcR q + 1 := u5
          rw [t4] at s1 s2 s3 s4
          rw [pca] at s1 s2 s3 s4 t1 t2 t3
          refine ⟨ro, fun gu => kk ?_⟩
          have pq : PQX SF U (pcC P) (pcR q) := ⟨t3, u4'⟩
          have g0 := gu 0
          rw [s4, u5'] at g0
          have cb := clampI c1
          have cm := clampI (show 0 ≤ (2 + x1 - 2).toInt by omega)
          have em' : (2 + x1 - 2).toNatClampNeg = mm := by omega
          rw [em'] at g0
          exact gi_URow (pq.hc (hc.up (Nat.le_add_right _ _))) pq.2.1 ⟨⟨t1, s1, s3, u1'⟩, mm, a.1.toNatClampNeg, j.h, ⟨by rw [t2]; exact hmm.1, by rw [u2', hmm.2]; exact hmm.1, by rw [s2]; exact cb.symm⟩, ⟨rfl, by omega, by omega⟩, ω + j.l + 1264 - (pcC P + 1 + 1), by omega, g0⟩)
        exact ⟨2 + x1 - 2, by omega, by omega, j4.se (u := RS.setA em.2 65 T 12) rfl ⟨rfl, fun _ _ => rfl⟩⟩
/-- from the colon on -/
theorem ro_val {N : Nat} (hN : 1000 ≤ N) {E1 : CS → Option (Unit × CS)} {E2 : CS → Option (Int32 × CS)} (hm1 : ∀ σ, Kf (CS.i σ 32) (E1 σ)) (hm2 : ∀ σ, Kf (CS.i σ 32) (E2 σ)) (hE : SXR N 18 E1) {d : Int32} {T n : Nat} {S P : CS} {s q V U : RS} {v71 : Int32} {l : Int64} {W : Int32 × CS} {JJ : Prop} {A : JBA} {B : CS} {b : RS} {V0 W0 : List RVW} (hph : 0 ≤ phI s) (hs11 : 0 ≤ (s.i 11).toInt) (k3 : JJ → 4 ≤ (U.i 3).toInt) (jg : JJ → JRG A U B b V0 s W0 (JQA U 1264 0 (pcC P) (pcR q) JQZ) (-8) (-7) P q) (w : WAY d T 8 14 1 (-4) 3 S s P q) (k64 : q.a 64 T = 12) (k71 : q.a 71 T = v71) (k74 : q.b 74 T = l) (e : f_X7_rowValues N E1 E2 P = some W) (hV : (if (q.i 10) = 434 then (f_X12_next N q).bind fun p45 => (f_X12_emit N p45 20 1).bind fun p47 => some (RS.setA p47.2 65 T 12) else (f_X12_then N (RS.setA q 68 T 0) 10 16).bind fun p43 => some p43) = some V) (g : f_X12_parse_10 N n V = some U) : (¬ W.2.i 32 = 0 ∧ ¬ U.i 15 = 0) ∨ ∃ (m : Nat) (u : RS), f_X12_parse_10 N m u = some U ∧ WAY d T 9 14 1 (-4) 3 S s W.2 u ∧ u.a 64 T = 12 ∧ u.a 65 T = 12 ∧ u.a 71 T = v71 ∧ u.b 74 T = l ∧ RWJ JJ A U B b V0 s W0 W u := by
  unfold f_X7_rowValues at e
  have i434 := tk_is w.1 (a := 224) (b := 434) (Or.inr ⟨by decide, by decide⟩) (by decide)
  have np := w.2.2.2.2.2.2.1.2.1
  by_cases c : P.i 43 = 224
  · have k := i434.mp c
    rw [if_pos k] at hV
    obtain ⟨v, ev, e⟩ := hf_bind e
    obtain ⟨av, eav, hv⟩ := e_skip1 c ev
    rw [hv, if_neg n10] at e
    obtain ⟨th, eth, e⟩ := hf_bind e
    obtain ⟨a, ea, e⟩ := hf_bind e
    cases e
    unfold f_X7_throwNull at eth
    obtain ⟨t1, et1, eth⟩ := hf_bind eth
    obtain ⟨t2, et2, eth⟩ := hf_bind eth
    cases eth
    obtain ⟨nx, hnx, hV⟩ := hf_bind hV
    obtain ⟨em, hem, hV⟩ := hf_bind hV
    cases hV
    obtain ⟨w1, f1⟩ := w.nx hN (by rw [c]; decide) eav hnx
    have np1 := w1.2.2.2.2.2.2.1.2.1
    obtain ⟨w2, f2, -, -, -⟩ := w1.em (by omega) hem
    obtain ⟨ft1, -⟩ := FRB.ft (T := T) f1
    obtain ⟨ft2, -⟩ := FRB.ft (T := T) f2
    have ft := ft1.tr ft2
    have w3 : WAY d T 9 14 1 (-4) 3 S s a.2 (RS.setA em.2 65 T 12) := ((((w2.ad et1).ad et2).kd (nc_kd ea)).sa (j := 65) (v := 12) ⟨by omega, by omega⟩).nu (by omega) (by omega) (by omega) (by omega) (by omega)
    refine Or.inr ⟨n, _, g, w3, ft.1.trans k64, setA_at, ft.2.2.2.2.2.2.1.trans k71, ?_, fun hJ => ?_⟩
    · show em.2.b 74 T = l
      rw [(f2 (T + 1) T (by omega)).2.2.2.2.2.2.2.2.2.2, (f1 (T + 1) T (by omega)).2.2.2.2.2.2.2.2.2.2]
      exact k74
    · have g44 : (av.2.i 44).toInt = (nx.i 11).toInt := by rw [w1.1.p44.1]
      have g6 := (i11_hi w1.1).2
      have p20 := w1.1.p20
      have i1 : t1.2.i 44 = av.2.i 44 := by
        unfold f_X0_add at et1
        cases et1
        rfl
      have i2 : t2.2.i 44 = t1.2.i 44 := by
        unfold f_X0_add at et2
        cases et2
        rfl
      have j1 := (jg hJ).adw hN w.1 (by rw [c]; decide) eav hnx
      have j2 := (j1.add et1 (by omega) (by omega)).add et2 (by rw [i1]; omega) (by omega)
      have j3 := j2.emt hem ⟨p20.1, by omega⟩
      have pca : pcC av.2 = pcC P := pcC.pe (ke_X9_advance N P av eav)
      have prn : pcR nx = pcR q := pcR.qe (kre_f_X12_next N q nx hnx)
      have k3' := k3 hJ
      have j4 := j3.imp (a1 := -8) (e1 := -9) (K' := JQZ) (by omega) (by omega) (fun FC SF nm X ω j Z hc hh tyc tl hω r12 k => by
        obtain ⟨⟨u1, u2, u3, u4, u5⟩, ⟨s1, s2, s3, s4⟩, ⟨t1', t2', t3', t4'⟩, kk⟩ := k
        rw [t4'] at s1 s2 s3
        have pq : PQX SF U (pcC av.2) (pcR nx) := ⟨t3', u4⟩
        have l11 := w.l11
        have h9 := (i11_hi w.1).2
        have e1' : (1 : Int32).toInt = 1 := by decide
        exact kk (fun g => by
          rw [← pca, ← prn]
          exact gi_URa0 (pq.hc hc) pq.2.1 ⟨ω + j.t, by omega, by omega, tyc, t1', t2', s1, s3, u1, by rw [s2, u2], by rw [s2, e1']; omega, by rw [s2, e1']; omega⟩))
      have j5 := j4.ncl ea (by decide) (by show (-9 : Int) + 2 * (2 : Int32).toInt ≤ 200; decide) (by decide) (by rw [i2, i1]; omega)
      have e2 : (2 : Int32).toInt = 2 := by decide
      exact ⟨2 - 2, by decide, by decide, (j5.imp (a1 := -5) (e1 := -2) (K' := JAN (JRO a.1 (2 - 2)) (JQE U 1264 a.1.toNatClampNeg (2 - 2 : Int32).toNatClampNeg (pcC a.2) (pcR em.2) JQZ)) (by omega) (by rw [e2]; omega) (fun _ _ _ _ _ _ _ _ _ _ _ _ _ k => ⟨k.2.1, fun _ => k.2.2⟩)).se (u := RS.setA em.2 65 T 12) rfl ⟨rfl, fun _ _ => rfl⟩⟩
  · have k : ¬ q.i 10 = 434 := fun z => c (i434.mpr z)
    rw [if_neg k, ob_id] at hV
    rw [e_skip0 c, ob_some] at e
    have e' : ((f_X1_expression N E1 E2 P).bind fun p6 => f_X7_rowValues_31 N E1 E2 N p6.2 1 0) = some W := (if_pos rfl).symm.trans e
    obtain ⟨p6, e6, e'⟩ := hf_bind e'
    have w1 := w.sa (j := 68) (v := 0) ⟨by omega, by omega⟩
    have np1 := w1.2.2.2.2.2.2.1.2.1
    rcases y_expr hN hm1 hm2 hE w1.1 w1.2.1 (by omega) e6 hV g with ⟨z1, z2⟩ | ⟨m3, u, g3, xo, xc⟩
    · refine Or.inl ⟨?_, z2⟩
      rw [kF_X7_rowValues_31 N E1 E2 hm1 hm2 N p6.2 _ _ W e' z1]
      exact z1
    have w3 := w1.exo xo
    obtain ⟨ft, u65⟩ := xo.ft
    have e68 : u.a 68 T = 0 := ft.2.2.2.1.trans setA_at
    have l11 := w1.l11
    have l19 := w1.l19
    have x11 := xo.2.2.2.2.2.2.1
    have jg' : JJ → JRG A U B b V0 s W0 (JQG U 1264 1 0 (pcC p6.2) (pcR u) JQZ) (-7 - ((1 : Nat) : Int)) (-6 - 2 * ((1 : Nat) : Int)) p6.2 u := fun hJ => by
      have j1 := ((jg hJ).se (u := RS.setA q 68 T 0) rfl ⟨rfl, fun _ _ => rfl⟩).imp (a1 := -8) (e1 := -7) (K' := JAN JTT (JQA U 1264 0 (pcC P) (pcR (RS.setA q 68 T 0)) JQZ)) (by omega) (by omega) (fun _ _ _ _ _ _ _ _ _ _ _ _ _ k => ⟨True.intro, k⟩)
      have j3 := j1.frm w1.1 xo xc (by omega) (by omega) (by omega) (by omega) (by omega)
      exact j3.imp (by omega) (by omega) (fun _ _ _ _ _ _ _ _ _ _ _ _ _ k => k.2)
    exact ro_vals hN hm1 hm2 hE hph hs11 N p6.2 u m3 1 0 W 1 ⟨by decide, by rw [e68]; decide⟩ (by omega) jg' (w3.nu (by omega) (by omega) (by omega) (by omega) (by omega)) (ft.1.trans k64) u65 (ft.2.2.2.2.2.2.1.trans k71) (by
      rw [xo.2.2.1.2.2.2.2.2.2.2.2.2.2]
      exact k74) (by decide) (by rw [z_t0]; exact (i11_hi w3.1).1) e' g3
end
section
/-! both readers: for over a row, its head whole -/
theorem ENV.s52 {d : Int32} {S : CS} {s : RS} {v : Int32} (h : ENV d S s) : ENV d S (RS.setI s 52 v) := h.kq rfl rfl rfl rfl rfl rfl rfl rfl rfl rfl rfl rfl rfl rfl rfl rfl rfl rfl rfl rfl ⟨h.2.2.2.2.2.2.1, h.2.2.2.2.2.2.2.1⟩ (h.wp.of (Int.le_refl _) rfl rfl rfl rfl rfl)
theorem TBK.s52 {s u : RS} {v : Int32} (h : TBK (RS.setI s 52 v) u) : TBK9 s u := by
  obtain ⟨⟨⟨a1, a2, a3, a4, a5, -, a7, a8, a9, a10⟩, r⟩, c⟩ := h
  have r' : TBR s u := r
  exact ⟨⟨⟨a1, a2, a3, a4, a5, trivial, a7, a8, a9, a10⟩, r'⟩, c⟩
set_option maxHeartbeats 4000000 in
theorem ro_head {N : Nat} (hN : 1000 ≤ N) {E1 : CS → Option (Unit × CS)} {E2 : CS → Option (Int32 × CS)} (hm1 : ∀ σ, Kf (CS.i σ 32) (E1 σ)) (hm2 : ∀ σ, Kf (CS.i σ 32) (E2 σ)) (hE : SXR N 18 E1) {d : Int32} {B : CS} {b : RS} {t0 T n : Nat} {L : List CEL} {x : Int} {S P : CS} {s q V U : RS} {c : CEL} {l : Int64} {W : Option Nat × CS} {R : Unit × CS} {A : JBA} (hC : COR d B b t0 (c :: L) x S s) (q1 : TOP S s c) (q2 : LOW S s c) (q3 : T = ceT c + wid (S.o c.2.1 0)) (hT : t0 ≤ T) (hm : NMC c S) (hx : S.o c.2.1 0 = 303 → x = -3) (hB : BOT b S (c :: L)) (w : WAY (d + 1) T 7 11 1 (-4) 2 S s P q) (jg : KU3 U s → JRW A U B b (vws S s (c :: L)) S s → JRG A U B b (vws S s (c :: L)) s [] (JQA U 1264 0 (pcC P) (pcR q) JQZ) (-7) (-8) P q) (k10 : q.i 10 = 58) (k64 : q.a 64 T = 12) (k71 : q.a 71 T = S.i 50) (k74 : q.b 74 T = l) (fr : ∀ k : Nat, (k : Int) < (q.i 38).toInt → ¬ q.b 39 k = l) (e : f_X7_rowHead N E1 E2 P l = some W) (e2 : f_X7_beginFor_85 N E1 E2 W.2 (S.i 50) W.1 = some R) (hV : f_X12_forHead_76 N q (q.i 63) 1 = some V) (g : f_X12_parse_10 N n V = some U) : (¬ R.2.i 32 = 0 ∧ ¬ U.i 15 = 0) ∨ DMD d B R.2 U ∨ ∃ (m : Nat) (u : RS), f_X12_parse_10 N m u = some U ∧ NEW d B b t0 c L R.2 u (JTR A U B b (c :: L) S s) := by
  have hvS := hC.1
  have h8 := hC.2.2.2.2.2.2.2.2.1.2.1
  have t21 := hC.2.2.2.2.2.2.2.2.1.1
  have q54 := hC.2.2.2.2.2.2.2.2.1.2.2
  have ph0 := hvS.2.2.2.2.2.2.2.1
  -- the class, taken apart
  unfold f_X7_rowHead at e
  obtain ⟨y1, ey1, e⟩ := hf_bind e
  obtain ⟨y5, ey5, e⟩ := hf_bind e
  obtain ⟨y9, ey9, e⟩ := hf_bind e
  obtain ⟨y13, ey13, e⟩ := hf_bind e
  obtain ⟨y17, ey17, e⟩ := hf_bind e
  obtain ⟨y21, ey21, e⟩ := hf_bind e
  obtain ⟨y25, ey25, e⟩ := hf_bind e
  obtain ⟨y29, ey29, e⟩ := hf_bind e
  obtain ⟨y33, ey33, e⟩ := hf_bind e
  obtain ⟨y37, ey37, e⟩ := hf_bind e
  obtain ⟨y41, ey41, e⟩ := hf_bind e
  obtain ⟨y45, ey45, e⟩ := hf_bind e
  obtain ⟨y49, ey49, e⟩ := hf_bind e
  obtain ⟨pp, a, epp, ra, hy49⟩ := pl_in ey49
  rw [hy49] at e
  have e' : some ((some a), CS.setO (CS.setO pp.2 a 10 y1.1) a 9 y5.1) = some W := e
  cases e'
  have e2' : (if oK (CS.setO (CS.setO pp.2 a 10 y1.1) a 9 y5.1) a 0 then some ((), CS.setO (CS.setO (CS.setO pp.2 a 10 y1.1) a 9 y5.1) a 3 (S.i 50)) else none) = some R := e2
  obtain ⟨-, e2'⟩ := hf_ite e2'
  cases e2'
  have f17 : ¬ y17.2.i 32 = 0 → ¬ pp.2.i 32 = 0 := fun z => by
    have z1 : ¬ y21.2.i 32 = 0 := by rw [kF_X0_aim N y17.2 y1.1 y21 ey21 z]; exact z
    have z2 : ¬ y25.2.i 32 = 0 := by rw [fst_add ey25]; exact z1
    have z3 : ¬ y29.2.i 32 = 0 := by rw [fst_add ey29]; exact z2
    have z4 : ¬ y33.2.i 32 = 0 := by rw [fst_add ey33]; exact z3
    have z5 : ¬ y37.2.i 32 = 0 := by rw [fst_add ey37]; exact z4
    have z6 : ¬ y41.2.i 32 = 0 := by rw [kF_X7_tell N y37.2 l y41 ey41 z5]; exact z5
    have z7 : ¬ y45.2.i 32 = 0 := by rw [fst_add ey45]; exact z6
    rw [kF_X6_push N y45.2 304 _ _ pp epp z7]
    exact z7
  have f13 : ¬ y13.2.i 32 = 0 → ¬ pp.2.i 32 = 0 := fun z => f17 (by rw [kF_X1_close N y13.2 41 y17 ey17 z]; exact z)
  show (¬ pp.2.i 32 = 0 ∧ ¬ U.i 15 = 0) ∨ DMD d B (CS.setO (CS.setO (CS.setO pp.2 a 10 y1.1) a 9 y5.1) a 3 (S.i 50)) U ∨ ∃ (m : Nat) (u : RS), f_X12_parse_10 N m u = some U ∧ NEW d B b t0 c L (CS.setO (CS.setO (CS.setO pp.2 a 10 y1.1) a 9 y5.1) a 3 (S.i 50)) u (JTR A U B b (c :: L) S s)
  -- the reference, to the values' end
  have k43 := (tk_is w.1 (a := 58) (b := 58) (Or.inl ⟨by decide, by decide⟩) (by decide)).mpr k10
  have n11 := w.2.2.2.2.2.2.1.1
  have n21 := w.2.2.2.2.2.2.2.1
  have w1 := w.nt (by omega) ey1
  have n21' := w1.2.2.2.2.2.2.2.1
  have w2 := w1.nt (by omega) ey5
  unfold f_X12_forHead_76 f_X12_forHead_142 at hV
  obtain ⟨nx, hnx, hV⟩ := hf_bind hV
  rw [if_neg n10] at hV
  obtain ⟨w3, f3⟩ := w2.nx hN (by rw [(nt_i ey5).2.1, (nt_i ey1).2.1, k43]; decide) ey9 hnx
  obtain ⟨ft3, -⟩ := FRB.ft (T := T) f3
  have hV' : (if (nx.i 10) = 434 then (f_X12_next N nx).bind fun p45 => (f_X12_emit N p45 20 1).bind fun p47 => some (RS.setA p47.2 65 T 12) else (f_X12_then N (RS.setA nx 68 T 0) 10 16).bind fun p43 => some p43) = some V := by
    rw [tp_nat w.2.1] at hV
    by_cases c4 : nx.i 10 = 434
    · rw [if_pos c4] at hV ⊢
      obtain ⟨p45, h45, hV⟩ := hf_bind hV
      obtain ⟨p47, h47, hV⟩ := hf_bind hV
      obtain ⟨-, hV⟩ := hf_ite hV
      rw [h45, ob_some, h47, ob_some]
      exact hV
    · rw [if_neg c4] at hV ⊢
      obtain ⟨-, hV⟩ := hf_ite hV
      exact hV
  have hs11 := (i11_hi hvS).1
  have jgv : KU3 U s ∧ JRW A U B b (vws S s (c :: L)) S s → JRG A U B b (vws S s (c :: L)) s [tv y5.1, tv y1.1] (JQA U 1264 0 (pcC y9.2) (pcR nx) JQZ) (-8) (-7) y9.2 nx := fun hJ => by
    have h1 : (P.i 44).toInt = (q.i 11).toInt := by rw [w.1.p44.1]
    have h2 : (y1.2.i 44).toInt = (q.i 11).toInt := by rw [w1.1.p44.1]
    have g6 := (i11_hi w.1).2
    have j1 := (((jg hJ.1 hJ.2).nt ey1 (by omega) (by omega)).nt ey5 (by omega) (by omega)).adv hN w2.1 (by rw [(nt_i ey5).2.1, (nt_i ey1).2.1, k43]; decide) ey9 hnx
    have n1 : y1.2.i 20 = P.i 20 := by
      unfold f_X0_newTarget at ey1
      cases ey1
      rfl
    have n2 : y5.2.i 20 = y1.2.i 20 := by
      unfold f_X0_newTarget at ey5
      cases ey5
      rfl
    have pc1 : pcC y9.2 = pcC P := (pcC.pe (ke_X9_advance N y5.2 y9 ey9)).trans (by unfold pcC; rw [n2, n1])
    have pr1 : pcR nx = pcR q := pcR.qe (kre_f_X12_next N q nx hnx)
    exact j1.imp (by omega) (by omega) (fun _ _ _ _ _ _ _ _ _ _ _ _ _ k => by rw [pc1, pr1]; exact k)
  rcases ro_val hN hm1 hm2 hE ph0 hs11 (fun hJ => hJ.1.2) jgv (w3.nu (by omega) (by omega) (by omega) (by omega) (by omega)) (ft3.1.trans k64) (ft3.2.2.2.2.2.2.1.trans k71) (((f3 (T + 1) T (by omega)).2.2.2.2.2.2.2.2.2.2).trans k74) ey13 hV' g with ⟨z1, z2⟩ | ⟨m3, u, g3, w4, u64, u65, u71, u74, rwj⟩
  · exact Or.inl ⟨f13 z1, z2⟩
  -- state 12
  obtain ⟨m4, V4, hV4, g4⟩ := rl_12 g3 w4.2.1 w4.1.1.2.1 u64
  unfold f_X12_fors at hV4
  obtain ⟨-, hV4⟩ := hf_ite hV4
  rw [tp_nat w4.2.1, if_neg (show ¬ u.a 65 T = 0 by rw [u65]; decide), if_neg (show ¬ u.a 65 T = 1 by rw [u65]; decide), if_neg (show ¬ u.a 65 T = 2 by rw [u65]; decide), if_neg (show ¬ u.a 65 T = 3 by rw [u65]; decide), if_neg (show ¬ u.a 65 T = 4 by rw [u65]; decide), if_neg (show ¬ u.a 65 T = 5 by rw [u65]; decide), if_neg (show ¬ u.a 65 T = 6 by rw [u65]; decide), if_neg (show ¬ u.a 65 T = 7 by rw [u65]; decide), if_neg (show ¬ u.a 65 T = 8 by rw [u65]; decide), ob_id] at hV4
  unfold f_X12_rows at hV4
  obtain ⟨-, hV4⟩ := hf_ite hV4
  rw [tp_nat w4.2.1, if_neg (show ¬ u.a 65 T = 10 by rw [u65]; decide), if_pos u65, u74] at hV4
  obtain ⟨z, hz, hV4⟩ := hf_bind hV4
  obtain ⟨sh, hsh, hV4⟩ := hf_bind hV4
  obtain ⟨em, hem, hV4⟩ := hf_bind hV4
  obtain ⟨-, hV4⟩ := hf_ite hV4
  obtain ⟨G, hG, hV4⟩ := hf_bind hV4
  rw [ob_id] at hV4
  have fu : ∀ k : Nat, (k : Int) < (u.i 38).toInt → ¬ u.b 39 k = l := fun k hk => by
    have z1 := w.2.2.2.1.1
    have z2 := w4.2.2.2.1.1
    rw [z2.1.2.2.2.1] at hk
    rw [(z2.2.1 k hk).1, ← (z1.2.1 k hk).1]
    exact fr k (by rw [z1.1.2.2.2.1]; exact hk)
  have hD : pj2 y37.2 = pj2 y17.2 := (kd_X0_add N y33.2 38 _ y37 ey37).trans ((kd_X0_add N y29.2 51 0 y33 ey33).trans ((kd_X0_add N y25.2 31 _ y29 ey29).trans ((kd_X0_add N y21.2 37 _ y25 ey25).trans (kd_X0_aim N y17.2 y1.1 y21 ey21))))
  rcases ro_shut hN w4 hvS (by omega) (by omega) h8 fu ey17 hD ey41 hz hsh with ⟨o1, o2, o3⟩ | ⟨o1, w5, f5, sh20, sh11, c44, sh38, sh40⟩
  · refine Or.inl ⟨f17 o2, u_flt g4 (krf_f_X12_body N _ 13 V4 hV4 ?_)⟩
    show ¬ G.2.i 15 = 0
    have z1 : ¬ em.2.i 15 = 0 := krf_f_X12_emit N _ 24 0 em hem o3
    exact krf_f_X12_loopGoal N _ G hG z1
  obtain ⟨ft5, -⟩ := FRB.ft (T := T) f5
  have w6 : WAZ d T 10 17 0 (-6) 4 S s y45.2 sh.2 := (w5.ad ey45).nu (by omega) (by omega) (by omega) (by omega) (by omega)
  have lo6 := w6.lo
  -- the reference's state before its goal
  obtain ⟨s5, hs5⟩ : ∃ y, y = RS.setI sh.2 52 (sh.2.i 52 + 1) := ⟨_, rfl⟩
  have ev5 : ENV d y45.2 s5 := by rw [hs5]; exact w6.1.s52
  have tp5 : tpI s5 = (T : Int) := by rw [hs5]; exact w6.2.1
  have ph5 : phI s5 = phI sh.2 := by rw [hs5]; rfl
  have i5 : ∀ k : Nat, k ≠ 52 → s5.i k = sh.2.i k := by
    rw [hs5]
    exact fun k h => if_neg h
  have a5 : s5.a = sh.2.a ∧ s5.b = sh.2.b := by rw [hs5]; exact ⟨rfl, rfl⟩
  have i552 : s5.i 52 = sh.2.i 52 + 1 := by rw [hs5]; rfl
  have t5 : ∀ y : RS, TBK s5 y → TBK9 sh.2 y := by
    rw [hs5]
    exact fun y h => h.s52
  rw [← hs5] at hem
  clear hs5
  obtain ⟨n1, n2, n3, n4, n5, n6, n7, n8, n9, n10', n11'⟩ := y_emit ev5 tp5 (by omega) hem
  have qjm := (qj2_eq (em_env ev5 (by omega) hem).2.2.1).1
  obtain ⟨x59, x60, x61, x62, -⟩ := qj_p qjm
  have hG' : f_X12_loopGoal N (RS.setA (RS.setA em.2 66 T em.1) 23 (em.1).toNatClampNeg z.1) = some G := by
    have z1 : upd (em.2.a 66) T em.1 T = em.1 := if_pos rfl
    rw [z1] at hG
    exact hG
  obtain ⟨q', hq'⟩ : ∃ y, y = RS.setA (RS.setA em.2 66 T em.1) 23 (em.1).toNatClampNeg z.1 := ⟨_, rfl⟩
  have e23 : EQ23 (RS.setA em.2 66 T em.1) q' := by
    rw [hq']
    exact ⟨rfl, rfl, rfl, fun k hk => setA_nk hk⟩
  have evq : ENV d y45.2 q' := e23.env (setA_env (Or.inr (by omega)) n1)
  have tbq : TBK s5 q' := (n4.tr (setA_tbk (by omega))).tr e23.tbk
  have frq : ∀ r : Nat, r ≤ T → FRB r s5 q' := fun r hr => ((n3 r).tr (setA_frb (Or.inr ⟨by omega, by omega, hr⟩))).tr e23.frb
  have iq : q'.i = em.2.i := by rw [hq']; rfl
  have q66 : q'.a 66 T = em.1 := by
    rw [e23.2.2.2 66 (by decide)]
    exact setA_at
  have qa : ∀ k : Nat, k ≠ 23 → k ≠ 66 → q'.a k = em.2.a k := fun k h1 h2 => by
    rw [e23.2.2.2 k h1]
    exact setA_nk h2
  have q23 : q'.a 23 = upd (em.2.a 23) (em.1).toNatClampNeg z.1 := by rw [hq']; rfl
  rw [← hq'] at hG'
  clear hq'
  have ftm := (FRB.ft (T := T) n3).1
  have q64 : q'.a 64 T = 12 := by
    rw [qa 64 (by decide) (by decide), ftm.1, a5.1, ft5.1]
    exact u64
  have q71 : q'.a 71 T = S.i 50 := by
    rw [qa 71 (by decide) (by decide), ftm.2.2.2.2.2.2.1, a5.1, ft5.2.2.2.2.2.2.1]
    exact u71
  have q20 : (q'.i 20).toInt = (sh.2.i 20).toInt + 1 := by
    rw [iq, n7, i5 20 (by decide)]
  have q11 : q'.i 11 = sh.2.i 11 := by rw [iq, n8, i5 11 (by decide)]
  have q17 : q'.i 17 = sh.2.i 17 := by rw [iq, n9, i5 17 (by decide)]
  have qph : phI q' = phI sh.2 - 1 := by
    have z1 : phI q' = phI em.2 := by
      unfold phI
      rw [iq]
    omega
  -- the class's row
  have evm : ENV d y45.2 q' := evq
  have sgP := w6.sg hvS
  have wpay := w6.pay hvS (by omega)
  obtain ⟨a', m, ra', psr, evR, sq⟩ := evm.row (v := 304) ⟨by decide, by decide, by decide, by decide⟩ wpay (by rw [if_neg (by decide), if_neg (by decide)]; exact sgP) (by rw [q11]; omega) epp
  have ea : a' = a := by
    rw [ra] at ra'
    cases ra'
    rfl
  rw [ea] at psr sq
  have f0x := psr.2.2.2.2.2.2.2.2.2.1
  have sqX := ((sq.so (k := 10) (w := y1.1) ⟨by decide, by decide, by decide, by decide⟩).so (k := 9) (w := y5.1) ⟨by decide, by decide, by decide, by decide⟩).so3 (w := S.i 50)
  have evX : ENV d (CS.setO (CS.setO (CS.setO pp.2 a 10 y1.1) a 9 y5.1) a 3 (S.i 50)) q' := ((evR.so (by decide)).so (by decide)).so (by decide)
  have o5X : (CS.setO (CS.setO (CS.setO pp.2 a 10 y1.1) a 9 y5.1) a 3 (S.i 50)).o a 5 = 0 := ((so_nk (by decide)).trans ((so_nk (by decide)).trans (so_nk (by decide)))).trans f0x.1
  have o7X : (CS.setO (CS.setO (CS.setO pp.2 a 10 y1.1) a 9 y5.1) a 3 (S.i 50)).o a 7 = 0 := ((so_nk (by decide)).trans ((so_nk (by decide)).trans (so_nk (by decide)))).trans f0x.2.2.1
  have x38 : (CS.setO (CS.setO (CS.setO pp.2 a 10 y1.1) a 9 y5.1) a 3 (S.i 50)).i 38 = y45.2.i 38 := psr.2.1 38 (by decide) (by decide)
  have x21' : (CS.setO (CS.setO (CS.setO pp.2 a 10 y1.1) a 9 y5.1) a 3 (S.i 50)).i 21 = y45.2.i 21 := psr.2.1 21 (by decide) (by decide)
  obtain ⟨X, hX⟩ : ∃ X, X = CS.setO (CS.setO (CS.setO pp.2 a 10 y1.1) a 9 y5.1) a 3 (S.i 50) := ⟨_, rfl⟩
  have peX : pe X = pe pp.2 := by rw [hX]; rfl
  have aX : X.a = pp.2.a := by rw [hX]; rfl
  have iX : X.i = pp.2.i := by rw [hX]; rfl
  have oX10 : X.o a 10 = y1.1 := by rw [hX]; exact (so_nk (by decide)).trans ((so_nk (by decide)).trans so_at)
  have oX9 : X.o a 9 = y5.1 := by rw [hX]; exact (so_nk (by decide)).trans so_at
  have oX2 : X.o a 2 = y45.2.i 38 := by rw [← psh_o2 epp ra, hX]; exact (so_nk (by decide)).trans ((so_nk (by decide)).trans (so_nk (by decide)))
  rw [← hX] at evX sqX o5X o7X x38 x21' ⊢
  clear hX
  obtain ⟨zX, ⟨r53, r54, -, -⟩, ⟨r50, -, -⟩, -, ⟨g0, -, g3', -⟩, -⟩ := id sqX
  refine Or.inr (lp_tail hC q1 q2 q3 hT hm hx hB w6 (by omega) (Or.inr (Or.inr (Or.inr rfl))) sqX g3' x38 o5X (fun z => by rcases z with z | z <;> exact absurd z (by decide)) ?_ (t5 q' tbq) ?_ evX hG' (Or.inr rfl) hV4 g4 ⟨by rw [q11]; exact Int.le_refl _, ?_, by rw [q17]; exact Int.le_refl _, ?_⟩ (by rw [x21', q11]; omega) (by rw [r54, q11]; omega) ⟨?_, ?_, ?_, ?_⟩ (fun u g w hu h1 h2 h3 => ?_) (fun u c1 k h1 h2 hu h3 => ?_) (fun u' c1 v2 v3 qu un uj uf R36 lpf pls ku jw => ?_))
  · intro j hj
    have z1 := frq T (Nat.le_refl T) j hj
    rw [a5.1, a5.2] at z1
    exact z1
  · show (q'.i 63).toInt = (T : Int)
    rw [iq]
    exact n2
  · show phI s + 2 ≤ phI q'
    omega
  · rw [iq, n10', i5 19 (by decide)]
    have z9 := w6.2.2.2.2.2.2.1.2.2.2
    omega
  · rw [iq, x59, i5 59 (by decide)]
  · rw [qa 60 (by decide) (by decide), x60, a5.1]
  · rw [qa 61 (by decide) (by decide), x61, a5.1]
  · rw [qa 62 (by decide) (by decide), x62, a5.1]
  · exact RFR.m304 g0 ⟨⟨(hu 64 (by decide) (by decide) (by decide) (by decide)).trans q64, h1, h2, (hu 71 (by decide) (by decide) (by decide) (by decide)).trans (q71.trans g3'.symm), h3⟩, o7X⟩
  · have hk : k = (sh.2.i 20).toInt := by
      unfold PLF at h3
      rw [h1, g0, h2] at h3
      rcases h3 with ⟨-, z⟩ | ⟨z, -⟩ | ⟨z | z, -⟩
      · rw [z, hu 66 (by decide) (by decide) (by decide) (by decide), q66, n6, i5 20 (by decide)]
      · exact absurd z (by decide)
      · exact absurd z (by decide)
      · exact absurd z (by decide)
    omega
  · have hin := hC.inl q1 q3
    have ckall : CKZ S X := w6.2.2.2.2.1.tr w6.2.2.2.2.2.1.2.1 zX
    have fr5 : FRB T s q' := fun j hj => by
      have z1 := frq T (Nat.le_refl T) j hj
      rw [a5.1, a5.2] at z1
      exact (w6.2.2.1.tr (fun j' hj' => by
        have z2 := frq T (Nat.le_refl T) j' hj'
        rw [a5.1, a5.2] at z2
        exact z2)) j hj
    have veq : vws X u' (c :: L) = vws S s (c :: L) := vws.eqf (T := T) (uf.2) (c :: L) hC.o3 (fun y hy => (hin.o ckall y hy).1) (fun k t h1 h2 h3 => (uf.1 k t h1 h2 h3).trans (fr5.fld k t h1 h2 h3)) (fun y hy => by
      have z1 := wid1 (S.o y.2.1 0)
      have z2 := (hin y hy).2.2.1
      omega)
    show JRW A U B b (vw X u' c1 :: vws X u' (c :: L)) X u'
    rw [veq] at pls ⊢
    obtain ⟨cnt, hc0, hc9, jr⟩ := rwj ⟨ku, jw⟩
    have pa1 := psr.1.1
    -- the class
    have g44 : (y13.2.i 44).toInt = (u.i 11).toInt := by rw [w4.1.p44.1]
    have g6 := (i11_hi w4.1).2
    have g44' : (y17.2.i 44).toInt = (sh.2.i 11).toInt := by rw [c44]
    have g6' := (i11_hi w6.1).2
    have j1 := jr.cec 1 (kc_X1_close N y13.2 41 y17 ey17) (ke_X1_close N y13.2 41 y17 ey17) (by omega)
    have j2 := JRG.aih (W1 := [cv y13.1 cnt, tv y5.1]) (W2 := []) (K' := fun FC SF nm X ω j Z => (cTg SF y1.1).toInt = ((pcC y17.2 : Nat) : Int) ∧ JAN (JRO y13.1 cnt) (JQE U 1264 y13.1.toNatClampNeg cnt.toNatClampNeg (pcC y13.2) (pcR u) JQZ) FC SF nm X ω j Z) j1 ey21 (by omega) (by omega) (fun FC SF nm X ω j Z h k => ⟨h, k⟩)
    have e21 : y21.2.i 20 = y17.2.i 20 ∧ y21.2.i 44 = y17.2.i 44 ∧ y21.2.i 50 = y17.2.i 50 := by
      unfold f_X0_aim at ey21
      cases ey21
      exact ⟨rfl, rfl, rfl⟩
    have e25 : y25.2.i 44 = y21.2.i 44 ∧ y25.2.i 50 = y21.2.i 50 := by
      unfold f_X0_add at ey25
      cases ey25
      exact ⟨rfl, rfl⟩
    have e29 : y29.2.i 44 = y25.2.i 44 ∧ y29.2.i 50 = y25.2.i 50 := by
      unfold f_X0_add at ey29
      cases ey29
      exact ⟨rfl, rfl⟩
    have e33 : y33.2.i 44 = y29.2.i 44 ∧ y33.2.i 50 = y29.2.i 50 := by
      unfold f_X0_add at ey33
      cases ey33
      exact ⟨rfl, rfl⟩
    have e37 : y37.2.i 44 = y33.2.i 44 ∧ y37.2.i 50 = y33.2.i 50 := by
      unfold f_X0_add at ey37
      cases ey37
      exact ⟨rfl, rfl⟩
    have j3 := (((j2.add ey25 (by rw [e21.2.1]; omega) (by omega)).add ey29 (by rw [e25.1, e21.2.1]; omega) (by omega)).add ey33 (by rw [e29.1, e25.1, e21.2.1]; omega) (by omega)).add ey37 (by rw [e33.1, e29.1, e25.1, e21.2.1]; omega) (by omega)
    have i17 : y17.2.i 50 = y13.2.i 50 := (pj_eq (kc_X1_close N y13.2 41 y17 ey17)).2.2.2.2.2.2.2.2.2.2.2.2.2.1
    have n50 : y37.2.i 50 = u.i 38 := by rw [e37.2, e33.2, e29.2, e25.2, e21.2.2, i17]; exact w4.1.2.1.1
    -- the reference
    obtain ⟨q0, hq0⟩ : ∃ y, y = RS.setI q' 52 (sh.2.i 52) := ⟨_, rfl⟩
    have q0i : ∀ k : Nat, k ≠ 52 → q0.i k = q'.i k := by rw [hq0]; exact fun k hk => if_neg hk
    have q052 : q0.i 52 = sh.2.i 52 := by rw [hq0]; rfl
    have q0a : q0.a = q'.a := by rw [hq0]; rfl
    clear hq0
    have p5 := ev5.p20
    have ph5' : 0 ≤ phI s5 := p5.2.1
    obtain ⟨m1, m2, m3', m4, m5, m6⟩ := cd_emit hem p5.1 (by omega)
    have emi : ∀ k : Nat, k ≠ 20 → em.2.i k = s5.i k := by
      unfold f_X12_emit f_X12_emit_21 at hem
      by_cases cc : (3000 : Int32) ≤ s5.i 20
      · have e3 : (3000 : Int32).toInt = 3000 := by decide
        have := le_int cc
        omega
      rw [if_neg cc] at hem
      obtain ⟨-, hem⟩ := hf_ite hem
      cases hem
      exact fun k hk => if_neg hk
    have ema : em.2.a 40 = s5.a 40 := by
      unfold f_X12_emit f_X12_emit_21 at hem
      by_cases cc : (3000 : Int32) ≤ s5.i 20
      · have e3 : (3000 : Int32).toInt = 3000 := by decide
        have := le_int cc
        omega
      rw [if_neg cc] at hem
      obtain ⟨-, hem⟩ := hf_ite hem
      cases hem
      rfl
    have q0s : ∀ k : Nat, k ≠ 52 → k ≠ 20 → q0.i k = sh.2.i k := fun k h1 h2 => by rw [q0i k h1, iq, emi k h2, i5 k h1]
    have s520 : s5.i 20 = sh.2.i 20 := i5 20 (by decide)
    have q020 : (q0.i 20).toInt = (sh.2.i 20).toInt + 1 := by rw [q0i 20 (by decide)]; exact q20
    have q0k : ∀ k : Nat, k ≠ 23 → k ≠ 66 → q0.a k = em.2.a k := fun k h1 h2 => by rw [q0a]; exact qa k h1 h2
    have ckm := clampI (show 0 ≤ em.1.toInt by rw [m2]; exact p5.1)
    have em1 : em.1.toInt = (sh.2.i 20).toInt := by rw [m2, s520]
    have k3s : CD2 (sh.2.i 20).toInt sh.2 q0 := by
      have m1' := m1.2
      rw [s520, a5.1] at m1'
      refine ⟨⟨by omega, by rw [q0s 24 (by decide) (by decide)]; exact Int.le_refl _, by rw [q0s 29 (by decide) (by decide)]; exact Int.le_refl _, by rw [q0s 33 (by decide) (by decide)]; exact Int.le_refl _, SLC.eq (q0s 42 (by decide) (by decide)) (by omega), q052⟩, fun j hj => ?_, fun j hj => ?_, fun j hj => ?_, fun j hj => ?_⟩
      · have z := m1'.1 j hj
        refine ⟨by rw [q0k 21 (by decide) (by decide)]; exact z.1, by rw [q0k 22 (by decide) (by decide)]; exact z.2.1, ?_⟩
        rw [q0a, q23]
        exact (if_neg (show ¬ j = em.1.toNatClampNeg by omega)).trans z.2.2
      · rw [q0k 25 (by decide) (by decide), q0k 26 (by decide) (by decide), q0k 27 (by decide) (by decide), q0k 28 (by decide) (by decide)]
        exact m1'.2.1 j (by rw [i5 24 (by decide)]; exact hj)
      · rw [q0k 30 (by decide) (by decide), q0k 31 (by decide) (by decide), q0k 32 (by decide) (by decide)]
        exact m1'.2.2.1 j (by rw [i5 29 (by decide)]; exact hj)
      · rw [q0k 34 (by decide) (by decide), q0k 35 (by decide) (by decide), q0k 36 (by decide) (by decide), q0k 37 (by decide) (by decide)]
        exact m1'.2.2.2 j (by rw [i5 33 (by decide)]; exact hj)
    have qsh : qe sh.2 = qe z.2 := kre_f_X12_shut N z.2 41 sh hsh
    have sz20 : sh.2.i 20 = z.2.i 20 := (qe_eq qsh).1.1
    have k3 : CD2 (z.2.i 20).toInt z.2 q0 := (CD2.qe qsh).tr (by rw [← sz20]; exact k3s)
    have prz : pcR z.2 = pcR s5 := by unfold pcR; rw [s520, sz20]
    have e1n : em.1.toNatClampNeg = pcR s5 := by rw [m2]; rfl
    have u20 := w4.1.p20
    have pc17 : pcC y17.2 = pcC y13.2 := pcC.pe (ke_X1_close N y13.2 41 y17 ey17)
    have pc21 : pcC y21.2 = pcC y17.2 := by unfold pcC; rw [e21.1]
    have j4 := j3.rwn (y := em.1) (u0 := q0) (K' := fun FC SF nm X ω j Z => PRT FC SF U nm X y5.1 em.1 ω (j.en [(4, j.h, y13.1.toNatClampNeg, cnt.toNatClampNeg, 0, 0, 0)]) → GU FC SF U nm X (pcC y45.2) (pcR q0) j.h (ω + j.l + 2528 - pcC y45.2) 0 ((4, j.h, y13.1.toNatClampNeg, cnt.toNatClampNeg, 0, 0, 0) :: j.c) → ((2 * j.h + msr j.c : Nat) : Int) ≤ (s.i 11).toInt → Z ∧ HE5 FC SF U nm X y1.1 em.1 ω (j.en [(4, j.h, y13.1.toNatClampNeg, cnt.toNatClampNeg, 0, 0, 0)])) (by rw [w4.2.2.2.1.1.1.2.2.2.1]; exact hC.2.2.2.2.2.1.2.1.1) n50 (nms_hi w4.1) (by rw [e37.1, e33.1, e29.1, e25.1, e21.2.1]; omega) ⟨u20.1, by omega⟩ ey41 hz ey45 k3 (by rw [q020, sz20]) ⟨by rw [prz, q0k 21 (by decide) (by decide)]; exact m4, by rw [prz, q0a, q23, e1n]; exact if_pos rfl⟩ (by rw [q0s 42 (by decide) (by decide)]; exact (qe_eq qsh).1.2.2.2.2.1) (by rw [q0s 38 (by decide) (by decide)]; exact sh38) (by rw [q0k 40 (by decide) (by decide), ema, a5.1]; exact sh40) (by rw [m2, s520, sz20]) (by omega) (by omega) (fun FC SF nm X ω j Z sf uf' nmf k prt gu hh => by
      obtain ⟨s1, s2, s3, s4⟩ := sf
      obtain ⟨u1, u2, u3, u4, u5⟩ := uf'
      obtain ⟨⟨h1, h2, h3, h4⟩, ⟨f1, f2, f3, f4⟩, ⟨g1', g2', g3', g4'⟩, ⟨t1, t2, t3, t4⟩, ct, ⟨ro1, ro2⟩, kk⟩ := k
      rw [h4, f4, g4', t4] at s1 s2 s3 s4
      rw [f4, g4', t4] at h1 h2 h3
      rw [g4', t4] at f1 f2 f3
      rw [t4] at g1' g2' g3'
      rw [pc21, pc17] at s1 s2 s3 s4 h1 h2 h3 f1 f2 f3 g1' g2' g3' t1 t2 t3
      rw [pc17] at ct
      obtain ⟨cN, dN, nm1, nm2, nm3⟩ := nmf
      have cb := clampI ro1
      have h9 := (i11_hi hvS).2
      have pq : PQX SF U (pcC y13.2) (pcR u) := ⟨t3, u3⟩
      obtain ⟨pp', qq', w1', w2', w3'⟩ := prt
      rw [u5] at w2'
      rw [s4, u4] at gu
      have w3'' : GU FC SF U nm X pp' qq' j.h (ω + j.l - pp') 0 ((4, j.h, y13.1.toNatClampNeg, cnt.toNatClampNeg, 0, 0, 0) :: j.c) := w3'
      have head : ∀ g : Nat, GU FC SF U nm X (pcC y13.2) (pcR u) j.h (ω + j.l + 1264 - pcC y13.2) g ((4, j.h, y13.1.toNatClampNeg, cnt.toNatClampNeg, 0, 0, 0) :: j.c) := fun g => gi_URwn (pq.hc ro2) pq.2.1 ⟨⟨t1, g1', f1, h1, s1, by omega, u1⟩, ⟨by omega, by omega⟩, _, j.c, cN, dN, ω + j.l + 2528 - (pcC y13.2 + 1 + 1 + 1 + 1 + 1), rfl, rfl, ⟨by rw [t2]; exact cb.symm, by rw [h2]; exact cb.symm, by rw [s2]; exact nm1, by rw [u2]; exact nm2, nm3⟩, ⟨pp', qq', _, ⟨by rw [g2']; exact w1', w2'⟩, by omega, w3''⟩, by omega, gu⟩
      exact ⟨kk head, pcC y13.2, pcR u, ct, by rw [em1, sh20]; exact (Int.toNat_of_nonneg u20.1).symm, by omega, head 5⟩)
    have kp := ke_X6_push N y45.2 304 _ _ pp epp
    have hr : (vw X u' c1).v = 304 := show X.o c1.2.1 0 = 304 by rw [v2]; exact g0
    have r66 : (vw X u' c1).2.1 66 = em.1 := show (vw X u' c1).2.1 66 = _ by rw [vw_at (k := 66) ⟨by decide, by decide⟩, v3, uj 66 (by decide) (by decide) (by decide) (by decide)]; exact q66
    have r9 : (vw X u' c1).1 9 = y5.1 := show X.o c1.2.1 9 = y5.1 by rw [v2]; exact oX9
    have r10 : (vw X u' c1).1 10 = y1.1 := show X.o c1.2.1 10 = y1.1 by rw [v2]; exact oX10
    have jl : jlv (vw X u' c1).v = 2528 := by rw [hr]; rfl
    have en : ∀ (G : GHT) (ω h l : Nat), G (vw X u' c1).2.2.1 = (y13.1.toNatClampNeg, cnt.toNatClampNeg, []) → jen G ω (vw X u' c1) h l = [(4, h, y13.1.toNatClampNeg, cnt.toNatClampNeg, 0, 0, 0)] := fun G ω h l hG => by
      unfold jen
      rw [hr, if_neg (by decide), if_neg (by decide), if_neg (by decide), if_neg (by decide), if_pos rfl, hG]
      rfl
    have d1 : D38 y45.2 X := D38.of (peX.trans kp) x21' (by rw [iX]; exact psr.2.1 44 (by decide) (by decide))
    have d2 : D52 q0 u' := by
      have z1 : D52 q' u' := D52.of qu
      have z2 : D52 q0 q' := ⟨⟨(q0i 20 (by decide)).symm, (q0i 24 (by decide)).symm, (q0i 29 (by decide)).symm, (q0i 33 (by decide)).symm, (q0i 42 (by decide)).symm⟩, by rw [q0a], by rw [q0a], by rw [q0a], by rw [q0a], by rw [q0a], by rw [q0a], by rw [q0a], by rw [q0a], by rw [q0a], by rw [q0a], by rw [q0a], by rw [q0a], by rw [q0a], by rw [q0a]⟩
      exact z2.tr z1
    have pc5 : pcC X = pcC y45.2 := pcC.pe (peX.trans kp)
    have pr5 : pcR u' = pcR q0 := by unfold pcR; rw [d2.1.1]
    have l19 : (s.i 19).toInt ≤ (u'.i 19).toInt := by
      rw [un.2.2.2, iq, n10', i5 19 (by decide)]
      have z9 := w6.2.2.2.2.2.2.1.2.2.2
      omega
    have l11 : (s.i 11).toInt + 1 ≤ (u'.i 11).toInt := by rw [un.2.2.1, q11]; omega
    have u52 : u'.i 52 = sh.2.i 52 + 1 := ((qe_eq qu).1.2.2.2.2.2).trans (by rw [iq, emi 52 (by decide), i552])
    refine j4.psd (r := vw X u' c1) (y13.1.toNatClampNeg, cnt.toNatClampNeg, []) (fun z => z.ps (by rw [aX, pa1]) (by rw [aX, pa1]) (by rw [d32.yes (Or.inr (Or.inr (Or.inr (Or.inr hr)))), u52, q052]) (Int.le_of_eq (by rw [un.1, q0i 38 (by decide)]))) d1 d2 ⟨by omega, fun _ => by omega, ⟨fun _ => by rw [r10]; exact List.mem_cons_of_mem _ List.mem_cons_self, fun z => absurd (hr.symm.trans z) (by decide), by rw [hr]; decide⟩, fun z => absurd (hr.symm.trans z) (by decide), by rw [hr]; decide, by rw [hr]; decide⟩ (Or.inl (by omega)) lpf.1 l19 pls (fun y => ?_) (fun z => absurd (hr.symm.trans z) (by decide)) (by rw [hr]; decide) (fun k y => ?_) ?_ (fun _ => ⟨lpf.2.1, lpf.2.2.1, lpf.2.2.2.1, lpf.2.2.2.2.1, (show X.o c1.2.1 2 = y45.2.i 38 by rw [v2]; exact oX2), fun z => absurd (show dln (vw X u' c1).v = 0 from z) (by rw [hr]; decide), fun _ => (show u'.a 47 (ceG c1) = q0.i 52 + 1 by rw [lpf.2.2.2.2.2, u52, q052]), by rw [r9]; exact nt5 w1.1 ey5, fun _ => by rw [r10]; exact nt5 w.1 ey1, fun _ => by rw [r66, em1, sh20]; exact u20.1, fun z => absurd (hr.symm.trans z) (by decide)⟩) ⟨fun z => absurd (show dfr (vw X u' c1).v = 1 from z) (by rw [hr]; decide), fun y => by rcases y with y | y | y | y <;> rw [hr] at y <;> exact absurd y (by decide), by omega, fun z => absurd (hr.symm.trans z) (by decide), by rw [hr]; decide⟩ (fun nm G' ω j hG' ng fr wn hc hh => ?_) (fun FC SF nm X' G' col YJ ω j Z hG' hω r12 hc hh k jr' cur => ?_)
    · rcases y with y | y | y | y <;> rw [hr] at y <;> exact absurd y (by decide)
    · unfold rsite at y
      rw [hr] at y
      rcases y with ⟨-, y⟩ | ⟨y, -⟩ | ⟨y, -⟩ | ⟨y, -⟩
      · rw [r66] at y
        exact ⟨_, List.mem_cons_self, sv.site.mpr y⟩
      · exact absurd y (by decide)
      · rcases y with y | y <;> exact absurd y (by decide)
      · exact absurd y (by decide)
    · have e1 : rtgs (vw X u' c1) = [y5.1] := by
        unfold rtgs
        rw [hr, if_neg (by decide), if_pos (by decide), r9]
      have e2 : ptl [sv em.1, hv y1.1, cv y13.1 cnt, tv y5.1] = [y5.1] := by
        show rtgs (sv em.1) ++ (rtgs (hv y1.1) ++ (rtgs (cv y13.1 cnt) ++ (rtgs (tv y5.1) ++ []))) = _
        rw [sv.tgs, hv.tgs, cv.tgs, tv.tgs]
        rfl
      rw [e1]
      exact List.Perm.of_eq e2.symm
    · rw [en G' ω j.h j.l hG']
      have wn' : ∀ k : Nat, y13.1.toNatClampNeg ≤ k → k < y13.1.toNatClampNeg + 2 + cnt.toNatClampNeg → (k : Int) < (y45.2.i 23).toInt ∧ k < 720 ∧ (∀ l : Nat, ¬ nm k l) ∧ ∀ e ∈ j.c, ¬ cel e k := fun k k1 k2 => by
        have z := (wn (cv y13.1 cnt) (List.mem_cons_of_mem _ (List.mem_cons_of_mem _ List.mem_cons_self)) (Or.inl rfl)).1 rfl
        have cc := clampI hc0
        have cb := clampI (show 0 ≤ y13.1.toInt from z.1)
        exact z.2 k (show y13.1.toInt ≤ (k : Int) by omega) (show (k : Int) < y13.1.toInt + 2 + cnt.toInt by omega)
      have hc' := hc.row (fun k k1 k2 => (wn' k k1 k2).2)
      have n52 := ng.2.2.1
      have ml := msr_len j.c
      have h9 := (i11_hi hvS).2
      refine ⟨ng.push (e := (4, j.h, y13.1.toNatClampNeg, cnt.toNatClampNeg, 0, 0, 0)) (by rw [aX, pa1]) (by rw [aX, pa1]) ?_ ?_ ?_ ?_ ?_ ?_, hc', ?_⟩
      · rw [un.1, q0i 38 (by decide)]
      · rw [un.2.1, q0a]
      · rw [x38]
        show (y45.2.i 38).toInt = (y45.2.i 38).toInt + (if (4 : Nat) ≤ 3 then 1 else 0)
        rw [if_neg (by decide)]
        omega
      · rw [q052] at n52
        rw [u52, q052, ad1 (by omega) (by omega)]
      · show ((frs j.c + (if (4 : Nat) ≤ 3 then 1 else 0) : Nat) : Int) ≤ _
        rw [if_neg (by decide)]
        omega
      · have nc := ng.2.2.2
        refine ⟨?_, fun e he => ?_⟩
        · have z := nc.1
          unfold SLO at z ⊢
          rw [d2.1.2.2.2.2, d2.1.1]
          exact z
        · rcases List.mem_cons.mp he with rfl | he
          · exact ⟨fun k y => by
              rcases y with ⟨y, -⟩ | ⟨-, y1', y2'⟩
              · exact absurd (show (4 : Nat) = 2 from y) (by decide)
              · rw [d1.1.2.2.2.1]
                exact (wn' k y1' y2').1, fun l y => absurd (show (4 : Nat) = 2 from y.1) (by decide)⟩
          · rw [d1.1.2.2.2.1, d2.1.2.2.2.2]
            exact nc.2 e he
      · show ((2 * j.h + ((j.c.length + 1) + 3 * (ops j.c + 0)) : Nat) : Int) ≤ _
        have : ((2 * j.h + (j.c.length + 3 * ops j.c) : Nat) : Int) ≤ (s.i 11).toInt := hh
        omega
    · rw [en G' ω j.h j.l hG', jl, pc5, pr5] at cur
      have prt := (jr'.2.2.2.2.2.1 hr).1
      rw [r9, r66, en G' ω j.h j.l hG'] at prt
      have e9 : ω + (j.l + 2528) - pcC y45.2 = ω + j.l + 2528 - pcC y45.2 := by omega
      have c2 := (cur R36).1
      rw [e9] at c2
      have y := k prt c2 hh
      refine ⟨y.1, fun x => absurd (hr.symm.trans x) (by decide), fun x => absurd (hr.symm.trans x) (by decide), fun x => absurd (hr.symm.trans x) (by decide), fun _ => ?_, fun x => absurd (hr.symm.trans x) (by decide)⟩
      rw [r10, r66, en G' ω j.h j.l hG']
      exact y.2
end
section
/-! both readers: for, whole -/
/-- int NAME in a head -/
theorem y_intN {N : Nat} (hN : 1000 ≤ N) {d : Int32} {T : Nat} {p f k y z : Int} {S P : CS} {s q nx : RS} {av : Unit × CS} {nn : Int64 × CS} {Q : Int32 × RS} (w : WAY d T p f k y z S s P q) (c : P.i 43 = 200) (e1 : f_X9_advance N P = some av) (e2 : f_X7_newName N av.2 = some nn) (g1 : f_X12_next N q = some nx) (g2 : f_X12_telling N nx (q.i 63) = some Q) : (Q.1 = 0 ∧ ¬ nn.2.i 32 = 0 ∧ ¬ Q.2.i 15 = 0) ∨ (Q.1 = 1 ∧ nn.1 = nx.l ∧ Q.2.b 74 T = nx.l ∧ (∀ k : Nat, (k : Int) < (Q.2.i 38).toInt → ¬ Q.2.b 39 k = nx.l) ∧ WAY (d + 1) T (p + 5) (f + 6) k y z S s nn.2 Q.2 ∧ (∀ j : Nat, 64 ≤ j → j ≤ 73 → Q.2.a j T = q.a j T) ∧ (∀ (A : JBA) (U : RS) (B : CS) (b : RS) (V0 : List RVW) (s0 : RS) (W : List RVW) (K : JKT) (a e : Int), JRG A U B b V0 s0 W K a e P q → JRG A U B b V0 s0 W K (a - 4 - 1) (e - 4 - 1) nn.2 Q.2) ∧ pcC nn.2 = pcC P ∧ pcR Q.2 = pcR q) := by
  obtain ⟨a1, tq, fq, kq, cq, l11, pq, q17, q19⟩ := y_nx hN w.1 w.2.1 (by rw [c]; decide) e1 g1
  obtain ⟨-, adv, -, b9⟩ := y_adv hN w.1.1 e1 g1
  have e63 : nx.i 63 = q.i 63 := Int32.toInt_inj.mp (by
    have x : (nx.i 63).toInt = (T : Int) := tq
    have y : (q.i 63).toInt = (T : Int) := w.2.1
    omega)
  rw [← e63] at g2
  rcases y_newName hN a1 tq e2 g2 with o | ⟨o1, c2, l1, b74, fresh, v1, v2, v3, v4, v5, v6, v7, v8, v9, v10⟩
  · exact Or.inl o
  have p4 : (q.i 11).toInt + 4 ≤ (nx.i 11).toInt := by
    have l3 := w.1.lb.1.2.1 (Or.inl c)
    have al : ALW (P.i 43) := Or.inr (by rw [c]; decide)
    have an : ALN (av.2.i 43) := Or.inl (by rw [c2]; decide)
    have gp := adv.2.2.2.1 al an
    rw [w.1.1.2.2.2.1.1, w.1.1.2.2.2.1.2.1] at l3
    rw [w.1.1.2.2.2.1.2.1, a1.1.2.2.2.1.1] at gp
    omega
  have w1 := w.cx2 (p1 := 5) (f1 := 6) (k1 := 0) v1 v2 ((fq T).tr v3) (kq.tr v5) (cq.tr v6) ⟨by omega, by omega, by omega, by rw [v10, q19]; omega⟩
  have n38 : Q.2.i 38 = nx.i 38 := v5.1.1.2.2.2.1
  refine Or.inr ⟨o1, l1, b74, fun k hk => ?_, w1.nu (by omega) (by omega) (by omega) (by omega) (by omega), fun j h1 h2 => ?_, fun A U B b V0 s0 W K a e h => ?_, ?_, ?_⟩
  · rw [n38] at hk
    rw [(v5.1.2.1 k hk).1]
    exact fresh k hk
  · rw [v4 j h1 h2]
    obtain ⟨f0, f1, f2, f3, f4, f5, f6, f7, f8, f9, -⟩ := fq (T + 1) T (by omega)
    have : j = 64 ∨ j = 65 ∨ j = 66 ∨ j = 67 ∨ j = 68 ∨ j = 69 ∨ j = 70 ∨ j = 71 ∨ j = 72 ∨ j = 73 := by omega
    rcases this with h | h | h | h | h | h | h | h | h | h <;> rw [h]
    · exact f0
    · exact f1
    · exact f2
    · exact f3
    · exact f4
    · exact f5
    · exact f6
    · exact f7
    · exact f8
    · exact f9
  · have j1 := h.tk 4 w.1.2.1.1 (kc_X9_advance N P av e1) (ke_X9_advance N P av e1) (NMV.tbk kq) (kre_f_X12_next N q nx g1) (by rw [w.1.p44.1, a1.p44.1]; exact p4)
    exact j1.tk 1 a1.2.1.1 (nn_pj e2 c2 v1.1.1) (ke_X7_newName N av.2 nn e2) (NMV.tbk v5) (kre_f_X12_telling N nx _ Q g2) (by rw [a1.p44.1, v1.p44.1]; exact v7)
  · exact (pcC.pe (ke_X7_newName N av.2 nn e2)).trans (pcC.pe (ke_X9_advance N P av e1))
  · exact (pcR.qe (kre_f_X12_telling N nx _ Q g2)).trans (pcR.qe (kre_f_X12_next N q nx g1))
set_option maxHeartbeats 4000000 in
theorem st_for {N : Nat} (hN : 1000 ≤ N) {E1 : CS → Option (Unit × CS)} {E2 : CS → Option (Int32 × CS)} (hm1 : ∀ σ, Kf (CS.i σ 32) (E1 σ)) (hm2 : ∀ σ, Kf (CS.i σ 32) (E2 σ)) (hE : SXR N 18 E1) (hE2 : SXN N 22 E2) {d : Int32} {B : CS} {b : RS} {t0 T n : Nat} {L : List CEL} {x : Int} {S : CS} {s U : RS} {c : CEL} {p R : Unit × CS} {A : JBA} (hC : COR d B b t0 (c :: L) x S s) (hS : STO c T S s) (hT : t0 ≤ T) (hm : NMC c S) (hx : S.o c.2.1 0 = 303 → x = -3) (hB : BOT b S (c :: L)) (h43 : S.i 43 = 207) (e1 : f_X0_add N (CS.setI (CS.setI S 36 1) 24 ((S.i 24) + 1)) 51 0 = some p) (e : f_X7_beginFor N E1 E2 p.2 = some R) (g : f_X12_parse_10 N n s = some U) : (¬ R.2.i 32 = 0 ∧ ¬ U.i 15 = 0) ∨ DMD d B R.2 U ∨ ∃ (m : Nat) (u : RS), f_X12_parse_10 N m u = some U ∧ NEW d B b t0 c L R.2 u (JTR A U B b (c :: L) S s) := by
  obtain ⟨q1, q2, q3, q4, q5, q6⟩ := id hS
  have hv := hC.1
  have ph0 := hv.2.2.2.2.2.2.2.1
  have k10 := (tk_is hv (a := 207) (b := 417) (Or.inr ⟨by decide, by decide⟩) (by decide)).mp h43
  obtain ⟨m1, s1, g1, w0, a64, a65, i43, i10, ph3, i21, i11, jst⟩ := st_gj hC hS k10 (Or.inr (Or.inr (Or.inr (Or.inl ⟨rfl, rfl⟩)))) (by decide) e1 g
  have p50 : p.2.i 50 = S.i 50 := w0.2.2.2.2.2.1.2.1
  -- the class, taken apart
  unfold f_X7_beginFor at e
  obtain ⟨x1, ex1, e⟩ := hf_bind e
  obtain ⟨x5, ex5, e⟩ := hf_bind e
  rw [p50] at e
  -- the reference
  obtain ⟨m2, V, hV, g2⟩ := rl_12 g1 w0.2.1 w0.1.1.2.1 a64
  unfold f_X12_fors at hV
  obtain ⟨hib, hV⟩ := hf_ite hV
  rw [tp_nat w0.2.1, if_pos a65] at hV
  obtain ⟨q, hq, hV⟩ := hf_bind hV
  obtain ⟨r, hr, hV⟩ := hf_bind hV
  rw [ob_id] at hV
  have w1 := w0.sa (j := 71) (v := s1.i 38) ⟨by omega, by omega⟩
  have nz : ¬ p.2.i 43 = 0 := by rw [i43, h43]; decide
  obtain ⟨w2, f2⟩ := w1.nx hN nz ex1 hq
  have f5 : ¬ x5.2.i 32 = 0 → ¬ R.2.i 32 = 0 := fun z => by
    obtain ⟨x9, ex9, e⟩ := hf_bind e
    have z9 : ¬ x9.2.i 32 = 0 := by rw [kF_X1_skip N x5.2 200 x9 ex9 z]; exact z
    by_cases c9 : x9.1 = 0
    · rw [if_pos c9] at e
      obtain ⟨x14, ex14, e⟩ := hf_bind e
      have z14 : ¬ x14.2.i 32 = 0 := by rw [kF_X1_found N x9.2 2 x14 ex14 z9]; exact z9
      by_cases c14 : x14.1 = 0
      · rw [if_pos c14] at e
        rw [kF_X7_beginFor_80 N E1 E2 hm1 hm2 x14.2 (S.i 50) R e z14]
        exact z14
      · rw [if_neg c14] at e
        obtain ⟨x28, ex28, e⟩ := hf_bind e
        have z28 : ¬ x28.2.i 32 = 0 := by rw [kF_X7_changeHere N E1 E2 hm1 hm2 x14.2 0 x28 ex28 z14]; exact z14
        rw [kF_X7_beginFor_80 N E1 E2 hm1 hm2 x28.2 (S.i 50) R e z28]
        exact z28
    · rw [if_neg c9] at e
      obtain ⟨x32, ex32, e⟩ := hf_bind e
      have z32 : ¬ x32.2.i 32 = 0 := by rw [kF_X7_newName N x9.2 x32 ex32 z9]; exact z9
      obtain ⟨x36, ex36, e⟩ := hf_bind e
      have z36 : ¬ x36.2.i 32 = 0 := by rw [kF_X1_found N x32.2 58 x36 ex36 z32]; exact z32
      by_cases c36 : x36.1 = 0
      · rw [if_pos c36] at e
        obtain ⟨x41, ex41, e⟩ := hf_bind e
        have z41 : ¬ x41.2.i 32 = 0 := by rw [kF_X7_define N E1 E2 hm1 hm2 x36.2 x32.1 x41 ex41 z36]; exact z36
        obtain ⟨x45, ex45, e⟩ := hf_bind e
        have z45 : ¬ x45.2.i 32 = 0 := by rw [kF_X7_forHead N E1 E2 hm1 hm2 x41.2 x45 ex45 z41]; exact z41
        rcases hf_oc e with ⟨-, h2⟩ | ⟨a, -, h2⟩
        · rw [kF_X7_beginFor_64 N E1 E2 hm1 hm2 x45.2 (S.i 50) none R h2 z45]
          exact z45
        · rw [kF_X7_beginFor_64 N E1 E2 hm1 hm2 x45.2 (S.i 50) (some a) R h2 z45]
          exact z45
      · rw [if_neg c36] at e
        obtain ⟨x51, ex51, e⟩ := hf_bind e
        have z51 : ¬ x51.2.i 32 = 0 := by rw [kF_X7_rowHead N E1 E2 hm1 hm2 x36.2 x32.1 x51 ex51 z36]; exact z36
        rcases hf_oc e with ⟨-, h2⟩ | ⟨a, -, h2⟩
        · rw [kF_X7_beginFor_64 N E1 E2 hm1 hm2 x51.2 (S.i 50) none R h2 z51]
          exact z51
        · rw [kF_X7_beginFor_64 N E1 E2 hm1 hm2 x51.2 (S.i 50) (some a) R h2 z51]
          exact z51
  rcases w2.op hN (c := 40) (e := 40) (Or.inl ⟨by decide, by decide⟩) (by decide) (by decide) (by decide) ex5 hr with ⟨o1, o2, o3⟩ | ⟨o1, w3, f3⟩
  · refine Or.inl ⟨f5 o2, u_flt g2 ?_⟩
    unfold f_X12_forHead at hV
    rw [if_neg o3] at hV
    cases hV
    exact o3
  obtain ⟨ft2, -⟩ := FRB.ft (T := T) f2
  obtain ⟨ft3, -⟩ := FRB.ft (T := T) f3
  have ft := ft2.tr ft3
  have s138 : s1.i 38 = S.i 50 := by
    have z1 := w0.2.2.2.1.1.1.2.2.2.1
    have z2 := hv.2.1.1
    rw [z1, z2]
  have r64 : r.2.a 64 T = 12 := ft.1.trans a64
  have r71 : r.2.a 71 T = S.i 50 := ft.2.2.2.2.2.2.1.trans ((show (RS.setA s1 71 T (s1.i 38)).a 71 T = s1.i 38 from setA_at).trans s138)
  have w4 : WAY d T 2 5 1 (-4) 2 S s x5.2 r.2 := w3.nu (by omega) (by omega) (by omega) (by omega) (by omega)
  have j4 : KU3 U s → JRW A U B b (vws S s (c :: L)) S s → JRG A U B b (vws S s (c :: L)) s [] (JQA U 1264 0 (pcC x5.2) (pcR r.2) JQZ) (-2) (-3) x5.2 r.2 := fun ku jw => by
    have z1 := (jst.go jw (e := 0) (Or.inr ⟨rfl, Or.inr (by rw [h43]; decide)⟩) hv.2.1.1).se (u := RS.setA s1 71 T (s1.i 38)) rfl ⟨rfl, fun _ _ => rfl⟩
    have z2 := (z1.adw hN w1.1 (by rw [i43, h43]; decide) ex1 hq).opn hN w2.1 (c := 40) (c' := 40) (Or.inl ⟨by decide, by decide⟩) (by decide) (by decide) (by decide) ex5 hr o1
    have pc1 : pcC x5.2 = pcC p.2 := (pcC.pe (ke_X1_open N x1.2 40 x5 ex5)).trans (pcC.pe (ke_X9_advance N p.2 x1 ex1))
    have pr1 : pcR r.2 = pcR s1 := (pcR.qe (kre_f_X12_open N q 40 r hr)).trans (pcR.qe (kre_f_X12_next N (RS.setA s1 71 T (s1.i 38)) q hq))
    exact z2.imp (by omega) (by omega) (fun _ _ _ _ _ _ _ _ _ _ _ _ _ k y => k (by rw [← pc1, ← pr1]; exact y 1))
  have i410 := tk_is w4.1 (a := 200) (b := 410) (Or.inr ⟨by decide, by decide⟩) (by decide)
  have i2 := tk_is w4.1 (a := 2) (b := 2) (Or.inl ⟨by decide, by decide⟩) (by decide)
  have i59 := tk_is w4.1 (a := 59) (b := 59) (Or.inl ⟨by decide, by decide⟩) (by decide)
  have tr : (r.2.i 63).toInt = (T : Int) := w4.2.1
  have e63 : r.2.i 63 = s1.i 63 := Int32.toInt_inj.mp (by
    have y : (s1.i 63).toInt = (T : Int) := w0.2.1
    omega)
  rw [← e63] at hV
  unfold f_X12_forHead at hV
  rw [if_pos w4.1.1.2.1] at hV
  by_cases c200 : x5.2.i 43 = 200
  · -- int
    rw [if_pos (i410.mp c200)] at hV
    obtain ⟨nx, hnx, hV⟩ := hf_bind hV
    obtain ⟨Q, hQ, hV⟩ := hf_bind hV
    obtain ⟨x9, ex9, e⟩ := hf_bind e
    obtain ⟨av, eav, hx9⟩ := e_skip1 c200 ex9
    rw [hx9, if_neg n10] at e
    obtain ⟨x32, ex32, e⟩ := hf_bind e
    obtain ⟨x36, ex36, e⟩ := hf_bind e
    have f32 : ¬ x32.2.i 32 = 0 → ¬ R.2.i 32 = 0 := fun z32 => by
      have z36 : ¬ x36.2.i 32 = 0 := by rw [kF_X1_found N x32.2 58 x36 ex36 z32]; exact z32
      by_cases c36 : x36.1 = 0
      · rw [if_pos c36] at e
        obtain ⟨x41, ex41, e⟩ := hf_bind e
        have z41 : ¬ x41.2.i 32 = 0 := by rw [kF_X7_define N E1 E2 hm1 hm2 x36.2 x32.1 x41 ex41 z36]; exact z36
        obtain ⟨x45, ex45, e⟩ := hf_bind e
        have z45 : ¬ x45.2.i 32 = 0 := by rw [kF_X7_forHead N E1 E2 hm1 hm2 x41.2 x45 ex45 z41]; exact z41
        rcases hf_oc e with ⟨-, h2⟩ | ⟨a, -, h2⟩
        · rw [kF_X7_beginFor_64 N E1 E2 hm1 hm2 x45.2 (S.i 50) none R h2 z45]
          exact z45
        · rw [kF_X7_beginFor_64 N E1 E2 hm1 hm2 x45.2 (S.i 50) (some a) R h2 z45]
          exact z45
      · rw [if_neg c36] at e
        obtain ⟨x51, ex51, e⟩ := hf_bind e
        have z51 : ¬ x51.2.i 32 = 0 := by rw [kF_X7_rowHead N E1 E2 hm1 hm2 x36.2 x32.1 x51 ex51 z36]; exact z36
        rcases hf_oc e with ⟨-, h2⟩ | ⟨a, -, h2⟩
        · rw [kF_X7_beginFor_64 N E1 E2 hm1 hm2 x51.2 (S.i 50) none R h2 z51]
          exact z51
        · rw [kF_X7_beginFor_64 N E1 E2 hm1 hm2 x51.2 (S.i 50) (some a) R h2 z51]
          exact z51
    rcases y_intN hN w4 c200 eav ex32 hnx hQ with ⟨o1', o2, o3⟩ | ⟨o1', l1, b74, fresh, w5, fa, jt5, pc5, pr5⟩
    · rw [if_pos o1'] at hV
      cases hV
      exact Or.inl ⟨f32 o2, u_flt g2 o3⟩
    rw [if_neg (show ¬ Q.1 = 0 by rw [o1']; decide)] at hV
    have j61 := tk_is w5.1 (a := 61) (b := 61) (Or.inl ⟨by decide, by decide⟩) (by decide)
    have j58 := tk_is w5.1 (a := 58) (b := 58) (Or.inl ⟨by decide, by decide⟩) (by decide)
    have w6 : WAY (d + 1) T 7 11 1 (-4) 2 S s x32.2 Q.2 := w5.nu (by omega) (by omega) (by omega) (by omega) (by omega)
    have Q63 : Q.2.i 63 = r.2.i 63 := Int32.toInt_inj.mp (by
      have y : (Q.2.i 63).toInt = (T : Int) := w6.2.1
      omega)
    by_cases c58 : x32.2.i 43 = 58
    · -- a row
      have k58 := j58.mp c58
      rw [if_neg (show ¬ Q.2.i 10 = 61 by rw [k58]; decide), if_pos k58, y_can1 w6.1.1.2.1 (by rw [k58]; decide), ob_some, if_neg n10] at hV
      have hV' : f_X12_forHead_61 N Q.2 (r.2.i 63) = some V := hV
      unfold f_X12_forHead_61 at hV'
      rw [if_pos k58, ← Q63] at hV'
      rw [e_fnd1 c58] at ex36
      cases ex36
      rw [if_neg n10] at e
      obtain ⟨x51, ex51, e⟩ := hf_bind e
      rw [l1] at ex51
      have e85 : f_X7_beginFor_85 N E1 E2 x51.2 (S.i 50) x51.1 = some R := by
        rcases hf_oc e with ⟨h1, h2⟩ | ⟨a, h1, h2⟩
        · rw [h1]
          exact h2
        · rw [h1]
          exact h2
      exact ro_head hN hm1 hm2 hE hC q1 q2 q3 hT hm hx hB w6 (fun ku jw => (jt5 _ _ _ _ _ _ _ _ _ _ (j4 ku jw)).imp (by omega) (by omega) (fun _ _ _ _ _ _ _ _ _ _ _ _ _ k => by rw [pc5, pr5]; exact k)) k58 ((fa 64 (by decide) (by decide)).trans r64) ((fa 71 (by decide) (by decide)).trans r71) b74 fresh ex51 e85 hV' g2
    · rw [e_fnd0 c58] at ex36
      cases ex36
      rw [if_pos rfl] at e
      obtain ⟨x41, ex41, e⟩ := hf_bind e
      obtain ⟨x45, ex45, e⟩ := hf_bind e
      have e85 : f_X7_beginFor_85 N E1 E2 x45.2 (S.i 50) x45.1 = some R := by
        rcases hf_oc e with ⟨h1, h2⟩ | ⟨a, h1, h2⟩
        · rw [h1]
          exact h2
        · rw [h1]
          exact h2
      have k58 : ¬ Q.2.i 10 = 58 := fun z => c58 (j58.mpr z)
      by_cases c61 : x32.2.i 43 = 61
      · have k61 := j61.mp c61
        rw [if_pos k61, y_can1 w6.1.1.2.1 (by rw [k61]; decide), ob_some, if_neg n10] at hV
        have hV' : f_X12_forHead_61 N Q.2 (r.2.i 63) = some V := hV
        unfold f_X12_forHead_61 at hV'
        rw [if_neg k58, ← Q63] at hV'
        rw [l1] at ex41
        exact fo_def hN hm1 hm2 hE hE2 hC q1 q2 q3 hT hm hx hB w6 (fun ku jw => (jt5 _ _ _ _ _ _ _ _ _ _ (j4 ku jw)).imp (by omega) (by omega) (fun _ _ _ _ _ _ _ _ _ _ _ _ _ k => by rw [pc5, pr5]; exact k)) k61 ((fa 64 (by decide) (by decide)).trans r64) ((fa 71 (by decide) (by decide)).trans r71) b74 fresh ex41 ex45 e85 hV' g2
      · have k61 : ¬ Q.2.i 10 = 61 := fun z => c61 (j61.mpr z)
        rw [if_neg k61, if_neg k58] at hV
        obtain ⟨ff, hf, hV⟩ := hf_bind hV
        obtain ⟨fa', fb⟩ := y_can0 hf
        rw [if_pos fa'] at hV
        cases hV
        refine Or.inl ⟨?_, u_flt g2 fb⟩
        unfold f_X7_define at ex41
        obtain ⟨t1, et1, ex41⟩ := hf_bind ex41
        obtain ⟨t5, et5, ex41⟩ := hf_bind ex41
        obtain ⟨t9, et9, ex41⟩ := hf_bind ex41
        obtain ⟨t13, et13, ex41⟩ := hf_bind ex41
        cases ex41
        have z1 := y_ex0 c61 et1
        have z5 : ¬ t5.2.i 32 = 0 := by rw [kF_X1_expression N E1 E2 hm1 hm2 t1.2 t5 et5 z1]; exact z1
        have z9 : ¬ t9.2.i 32 = 0 := by rw [kF_X7_tell N t5.2 x32.1 t9 et9 z5]; exact z5
        have z13 : ¬ t13.2.i 32 = 0 := by rw [fst_add et13]; exact z9
        have z45 : ¬ x45.2.i 32 = 0 := by rw [kF_X7_forHead N E1 E2 hm1 hm2 t13.2 x45 ex45 z13]; exact z13
        rw [kF_X7_beginFor_85 N E1 E2 hm1 hm2 x45.2 (S.i 50) x45.1 R e85 z45]
        exact z45
  · have k410 : ¬ r.2.i 10 = 410 := fun z => c200 (i410.mpr z)
    rw [if_neg k410] at hV
    rw [e_skip0 c200, ob_some] at e
    have e' : ((f_X1_found N x5.2 2).bind fun p14 => (if p14.1 = 0 then f_X7_beginFor_80 N E1 E2 p14.2 (S.i 50) else (f_X7_changeHere N E1 E2 p14.2 0).bind fun p28 => f_X7_beginFor_80 N E1 E2 p28.2 (S.i 50))) = some R := (if_pos rfl).symm.trans e
    by_cases c2 : x5.2.i 43 = 2
    · -- a name gets a value
      rw [if_pos (i2.mp c2)] at hV
      rw [e_fnd1 c2, ob_some, if_neg n10] at e'
      obtain ⟨x28, ex28, e'⟩ := hf_bind e'
      obtain ⟨W, eW, e85⟩ := b80_in e'
      have f28 : ¬ x28.2.i 32 = 0 → ¬ R.2.i 32 = 0 := fun z => by
        have z1 : ¬ W.2.i 32 = 0 := by rw [kF_X7_forHead N E1 E2 hm1 hm2 x28.2 W eW z]; exact z
        rw [kF_X7_beginFor_85 N E1 E2 hm1 hm2 W.2 (S.i 50) W.1 R e85 z1]
        exact z1
      unfold f_X7_changeHere at ex28
      obtain ⟨av, eav, ex28⟩ := hf_bind ex28
      obtain ⟨ch, ech, ex28⟩ := hf_bind ex28
      cases ex28
      obtain ⟨Q, hQ, hV⟩ := hf_bind hV
      obtain ⟨-, hV⟩ := hf_ite hV
      rw [tp_nat w4.2.1] at hV
      obtain ⟨nx, hnx, hV⟩ := hf_bind hV
      have lq : x5.2.l = r.2.l := w4.1.1.2.2.2.1.2.2.2.2.1 c2
      have ech0 := ech
      unfold f_X7_change at ech0
      obtain ⟨F, eF, -⟩ := hf_bind ech0
      have eF' : f_X4_find N av.2 r.2.l = some F := by rw [← lq]; exact eF
      obtain ⟨F2, zz⟩ := y_got2 w4.1 (kc_X9_advance N x5.2 av eav) eF' hQ
      have cc := ch_cls eF F2 ech
      have bad : ¬ Q.2.i 15 = 0 → ¬ U.i 15 = 0 := fun z => by
        have z1 : ¬ nx.i 15 = 0 := krf_f_X12_next N _ nx hnx (show ¬ (RS.setA Q.2 66 T Q.1).i 15 = 0 from z)
        refine u_flt g2 ?_
        by_cases d1 : nx.i 10 = 61
        · rw [if_pos d1, can_f z1, ob_some, if_pos rfl] at hV
          cases hV
          exact z1
        · rw [if_neg d1, can_f z1, ob_some, if_pos rfl] at hV
          cases hV
          exact z1
      rcases zz with ⟨y1, y2⟩ | ⟨y1, C, y2, y3, y4⟩
      · rcases cc with ⟨r1, -⟩ | ⟨r1, -⟩
        · exact Or.inl ⟨f28 r1, bad y2⟩
        · exact absurd y1 r1
      rcases y4 with ⟨C0, Q2, kx, kx1, kx2, kx3, kx4⟩ | ⟨C1, Q15⟩
      · rw [Q2] at hnx
        obtain ⟨w7, f7⟩ := (w4.sa (j := 66) (v := Q.1) ⟨by omega, by omega⟩).nx hN (by rw [c2]; decide) eav hnx
        obtain ⟨ft7, -⟩ := FRB.ft (T := T) f7
        have i61 := tk_is w7.1 (a := 61) (b := 61) (Or.inl ⟨by decide, by decide⟩) (by decide)
        rcases cc with ⟨r1, r2⟩ | ⟨-, -, r3⟩
        · have ng : ¬ (av.2.i 43 = 61 ∨ (¬ (0 : Int32) = 0 ∧ av.2.i 43 = 135)) := by
            rcases r2 with r | r | r
            · exact absurd r y1
            · exact absurd C0 (r C y2)
            · exact r
          have d1 : ¬ nx.i 10 = 61 := fun z => ng (Or.inl (i61.mpr z))
          rw [if_neg d1] at hV
          obtain ⟨ff, hf, hV⟩ := hf_bind hV
          obtain ⟨fa, fb⟩ := y_can0 hf
          rw [if_pos fa] at hV
          cases hV
          exact Or.inl ⟨f28 r1, u_flt g2 fb⟩
        · rcases r3 with ⟨r3, v, xx, aa, ev, ex, eaa, hW⟩ | ⟨r3, -⟩
          · have k := i61.mp r3
            rw [if_pos k, y_can1 w7.1.1.2.1 (by rw [k]; decide), ob_some, if_neg n10] at hV
            have hV' : f_X12_forHead_196 N nx = some V := hV
            unfold f_X12_forHead_196 at hV'
            obtain ⟨n2, hn2, hV'⟩ := hf_bind hV'
            rw [ob_id] at hV'
            obtain ⟨w8, f8⟩ := w7.nx hN (by rw [r3]; decide) ev hn2
            have np8 := w8.2.2.2.2.2.2.1.2.1
            rcases y_expr hN hm1 hm2 hE w8.1 w8.2.1 (by omega) ex hV' g2 with ⟨z1, z2⟩ | ⟨m3, u, g3, xo, xc⟩
            · refine Or.inl ⟨f28 ?_, z2⟩
              show ¬ ch.2.i 32 = 0
              rw [hW, fst_add eaa]
              exact z1
            have w9 := w8.exo xo
            obtain ⟨ft8, -⟩ := FRB.ft (T := T) f8
            obtain ⟨ft9, u65⟩ := xo.ft
            have ft79 := ft7.tr (ft8.tr ft9)
            have np9 := w9.2.2.2.2.2.2.1.2.1
            obtain ⟨m4, V4, hV4, g4⟩ := rl_12 g3 w9.2.1 w9.1.1.2.1 (ft79.1.trans r64)
            unfold f_X12_fors at hV4
            obtain ⟨-, hV4⟩ := hf_ite hV4
            rw [tp_nat w9.2.1, if_neg (show ¬ u.a 65 T = 0 by rw [u65]; decide), if_neg (show ¬ u.a 65 T = 1 by rw [u65]; decide), if_pos u65] at hV4
            obtain ⟨em, hem, hV4⟩ := hf_bind hV4
            cases hV4
            obtain ⟨w10, f10, -, -, -⟩ := w9.em (by omega) hem
            obtain ⟨ft10, -⟩ := FRB.ft (T := T) f10
            have ftt := ft79.tr ft10
            have w11 : WAY d T 2 5 1 (-4) 2 S s aa.2 (RS.setA em.2 65 T 3) := ((w10.ad eaa).sa (j := 65) (v := 3) ⟨by omega, by omega⟩).nu (by omega) (by omega) (by omega) (by omega) (by omega)
            rw [← hW] at w11
            exact fo_three hN hm1 hm2 hE hE2 hC q1 q2 q3 hT hm hx hB (w11.z (by omega)) (ftt.1.trans r64) setA_at (ftt.2.2.2.2.2.2.1.trans r71) (fun ku jw => by
              have w46 := w4.sa (j := 66) (v := Q.1) ⟨by omega, by omega⟩
              have z1 := ((j4 ku jw).se (u := RS.setA r.2 66 T Q.1) rfl ⟨rfl, fun _ _ => rfl⟩).adv hN w46.1 (by rw [c2]; decide) eav hnx
              have z2 := z1.adv hN w7.1 (by rw [r3]; decide) ev hn2
              have pcv : pcC v.2 = pcC x5.2 := (pcC.pe (ke_X9_advance N av.2 v ev)).trans (pcC.pe (ke_X9_advance N x5.2 av eav))
              have prv : pcR n2 = pcR r.2 := (pcR.qe (kre_f_X12_next N nx n2 hn2)).trans (pcR.qe (kre_f_X12_next N (RS.setA r.2 66 T Q.1) nx hnx))
              have z3 := z2.imp (a1 := -4) (e1 := -5) (K' := JAN JTT (JQA U 1264 0 (pcC v.2) (pcR n2) JQZ)) (by omega) (by omega) (fun _ _ _ _ _ _ _ _ _ _ _ _ _ k => ⟨True.intro, by rw [pcv, prv]; exact k⟩)
              have l11 := w8.l11
              have l19 := w8.l19
              have z4 := z3.frm w8.1 xo xc (by omega) (by omega) (by omega) (by omega) (by omega)
              have tb7 : TBK (RS.setA r.2 66 T Q.1) nx := (y_nx hN w46.1 w46.2.1 (by rw [c2]; decide) eav hnx).2.2.2.1
              have tb8 : TBK nx n2 := (y_nx hN w7.1 w7.2.1 (by rw [r3]; decide) ev hn2).2.2.2.1
              have tb9 : TBK nx u := tb8.tr xo.2.2.2.2.1
              have n38 : nx.i 38 = r.2.i 38 := tb7.1.1.2.2.2.1
              have kn : (kx : Int) < (nx.i 38).toInt := by rw [n38]; exact kx2
              have n49 : (av.2.a 49 kx).toInt < 0 := nm_fr w46.1 w7.1 tb7 kx2 kx3
              have n40 : nx.a 40 kx = Q.1 := ((tb7.1.2.1 kx kx2).2.1).trans kx4.symm
              have u66 : u.a 66 T = Q.1 := ft79.2.1.trans setA_at
              have hk8 := (nms_hi w4.1).2
              have g44 : (xx.2.i 44).toInt = (u.i 11).toInt := by rw [w9.1.p44.1]
              have g6 := (i11_hi w9.1).2
              have u20 := w9.1.p20
              have z5 := z4.sto (k := kx) eaa (by omega) (by omega) hem ⟨u20.1, by omega⟩ (by rw [tb9.1.1.2.2.2.1]; exact kn) (nm_fr w7.1 w9.1 tb9 kn n49) (gat_k kx1 (by omega)) (by rw [u66, (tb9.1.2.1 kx kn).2.1]; exact n40.symm)
              rw [← hW] at z5
              exact (z5.imp (a1 := -2) (e1 := -2) (K' := JQA U 1264 0 (pcC ch.2) (pcR em.2) JQZ) (by omega) (by omega) (fun _ _ _ _ _ _ _ _ _ _ _ _ _ k => k.2)).se (u := RS.setA em.2 65 T 3) rfl ⟨rfl, fun _ _ => rfl⟩) eW e85 g4
          · exact absurd rfl r3
      · rcases cc with ⟨r1, -⟩ | ⟨-, r2, -⟩
        · exact Or.inl ⟨f28 r1, bad Q15⟩
        · exact absurd (r2 C y2) C1
    · -- nothing
      have k2 : ¬ r.2.i 10 = 2 := fun z => c2 (i2.mpr z)
      rw [if_neg k2] at hV
      rw [e_fnd0 c2, ob_some, if_pos rfl] at e'
      obtain ⟨W, eW, e85⟩ := b80_in e'
      by_cases c59 : x5.2.i 43 = 59
      · have k59 := i59.mp c59
        rw [if_pos k59, y_can1 w4.1.1.2.1 (by rw [k59]; decide), ob_some, if_neg n10] at hV
        have hV' : f_X12_forHead_231 N r.2 (r.2.i 63) = some V := hV
        unfold f_X12_forHead_231 at hV'
        obtain ⟨-, hV'⟩ := hf_ite hV'
        rw [tp_nat w4.2.1] at hV'
        cases hV'
        exact fo_three hN hm1 hm2 hE hE2 hC q1 q2 q3 hT hm hx hB ((w4.sa (j := 65) (v := 3) ⟨by omega, by omega⟩).z (by omega)) r64 setA_at r71 (fun ku jw => ((j4 ku jw).imp (a1 := -2) (e1 := -2) (K' := JQA U 1264 0 (pcC x5.2) (pcR r.2) JQZ) (by omega) (by omega) (fun _ _ _ _ _ _ _ _ _ _ _ _ _ k => k)).se (u := RS.setA r.2 65 T 3) rfl ⟨rfl, fun _ _ => rfl⟩) eW e85 g2
      · have k59 : ¬ r.2.i 10 = 59 := fun z => c59 (i59.mpr z)
        rw [if_neg k59] at hV
        obtain ⟨ff, hf, hV⟩ := hf_bind hV
        obtain ⟨fa, fb⟩ := y_can0 hf
        rw [if_pos fa] at hV
        cases hV
        refine Or.inl ⟨?_, u_flt g2 fb⟩
        have z1 := fh_bad hm1 hm2 c59 eW
        rw [kF_X7_beginFor_85 N E1 E2 hm1 hm2 W.2 (S.i 50) W.1 R e85 z1]
        exact z1
end
section
/-! both readers: what stands side by side, rows aside -/
def RAW (S : CS) (s : RS) : Prop := 0 ≤ (s.i 20).toInt ∧ 0 ≤ phI s ∧ (s.i 17).toInt ≤ (s.i 11).toInt + 1 ∧ 0 ≤ (S.i 22).toInt ∧ 3 * (S.i 22).toInt ≤ (s.i 11).toInt ∧ 0 ≤ (S.i 21).toInt ∧ (S.i 21).toInt ≤ 3 * (s.i 11).toInt + 8 ∧ SJB S s ∧ WPI s ∧ LBW S
def ENW (d : Int32) (S : CS) (s : RS) : Prop := BT S s ∧ NMS S s ∧ (S.i 34 = s.i 19 ∧ 0 ≤ (s.i 19).toInt ∧ (s.i 19).toInt ≤ 20) ∧ CNS d S s ∧ LTE S s ∧ KND S s ∧ RAW S s
theorem ENV.w {d : Int32} {S : CS} {s : RS} (h : ENV d S s) : ENW d S s := by
  obtain ⟨h1, h2, h3, h4, h5, h6, ⟨r1, r2, r3, r4, r5, r6, r7, r8, r9, r10, r11⟩⟩ := h
  exact ⟨h1, h2, h3, h4, h5, h6, ⟨r1, r2, r3, r4, r5, r6, r7, r9, r10, r11⟩⟩
theorem ENW.v {d : Int32} {S : CS} {s : RS} (h : ENW d S s) (w : RWI S) : ENV d S s := by
  obtain ⟨h1, h2, h3, h4, h5, h6, ⟨r1, r2, r3, r4, r5, r6, r7, r9, r10, r11⟩⟩ := h
  exact ⟨h1, h2, h3, h4, h5, h6, ⟨r1, r2, r3, r4, r5, r6, r7, w, r9, r10, r11⟩⟩
theorem ENW.gx {d : Int32} {S R : CS} {s : RS} (h : ENW d S s) (ei : ∀ j : Nat, j ≠ 21 → j ≠ 36 → j ≠ 38 → j ≠ 53 → j ≠ 54 → j ≠ 55 → j ≠ 56 → R.i j = S.i j) (ea : R.a 0 = S.a 0 ∧ R.a 9 = S.a 9 ∧ R.a 49 = S.a 49) (eb : R.b = S.b) (el : R.l = S.l) (sj : SJB R s) (t21 : 0 ≤ (R.i 21).toInt ∧ (R.i 21).toInt ≤ 3 * (s.i 11).toInt + 8) : ENW d R s := by
  have i32 := ei 32 (by decide) (by decide) (by decide) (by decide) (by decide) (by decide) (by decide)
  have i34 := ei 34 (by decide) (by decide) (by decide) (by decide) (by decide) (by decide) (by decide)
  have i41 := ei 41 (by decide) (by decide) (by decide) (by decide) (by decide) (by decide) (by decide)
  have i42 := ei 42 (by decide) (by decide) (by decide) (by decide) (by decide) (by decide) (by decide)
  have i43 := ei 43 (by decide) (by decide) (by decide) (by decide) (by decide) (by decide) (by decide)
  have i44 := ei 44 (by decide) (by decide) (by decide) (by decide) (by decide) (by decide) (by decide)
  have i45 := ei 45 (by decide) (by decide) (by decide) (by decide) (by decide) (by decide) (by decide)
  have i50 := ei 50 (by decide) (by decide) (by decide) (by decide) (by decide) (by decide) (by decide)
  have i24 := ei 24 (by decide) (by decide) (by decide) (by decide) (by decide) (by decide) (by decide)
  have i25 := ei 25 (by decide) (by decide) (by decide) (by decide) (by decide) (by decide) (by decide)
  have i26 := ei 26 (by decide) (by decide) (by decide) (by decide) (by decide) (by decide) (by decide)
  have i37 := ei 37 (by decide) (by decide) (by decide) (by decide) (by decide) (by decide) (by decide)
  have i13 := ei 13 (by decide) (by decide) (by decide) (by decide) (by decide) (by decide) (by decide)
  have i22 := ei 22 (by decide) (by decide) (by decide) (by decide) (by decide) (by decide) (by decide)
  obtain ⟨a0, a9, a49⟩ := ea
  obtain ⟨⟨h1, h2, ⟨t1, t2, t3, t4⟩, ⟨k1, k2, k3, k4, k5, k6⟩, h5, h6, h7, h8⟩, ⟨n1, n2, n3, n4⟩, ⟨o1, o2⟩, ⟨c1, c2, c3⟩, l1, ⟨m1, m2, m3, m4⟩, ⟨r1, r2, r3, r4, r5, r6, r7, r9, r10, r11⟩⟩ := h
  refine ⟨⟨by rw [i32]; exact h1, h2, ⟨by rw [i41]; exact t1, t2, fun k hk => by rw [a0]; exact t3 k hk, fun k hk => by rw [eb]; exact t4 k hk⟩, ⟨by rw [i44]; exact k1, by rw [i42]; exact k2, by rw [i43]; exact k3, by rw [i43]; exact k4, fun q => ?_, fun q => ?_⟩, h5, h6, ?_, ?_⟩, ⟨by rw [i50]; exact n1, n2, fun k hk => by rw [eb, a49]; exact n3 k hk, n4⟩, ⟨by rw [i34]; exact o1, o2⟩, ⟨by rw [i24]; exact c1, by rw [i26]; exact c2, by rw [i25]; exact c3⟩, by unfold LTE at *; rw [i37]; exact l1, ⟨by rw [i13]; exact m1, by rw [a9]; exact m2, fun k h1 h2 => by rw [a9]; exact m3 k h1 h2, m4⟩, ⟨r1, r2, r3, by rw [i22]; exact r4, by rw [i22]; exact r5, t21.1, t21.2, sj, r10, r11.kd i42 i43 i44 i45 eb⟩⟩
  · rw [i43] at q
    rw [el]
    exact k5 q
  · rw [i43] at q
    rw [i45]
    exact k6 q
  · unfold LC AB BY at *
    rw [i41, i42, i43, i44, i45, el, a0]
    exact h7
  · unfold WDC at *
    rw [eb]
    exact h8
theorem ENW.adv {N : Nat} (hN : 1000 ≤ N) {d : Int32} {S : CS} {s : RS} {R : Unit × CS} {u : RS} (h : ENW d S s) (hz : ¬ S.i 43 = 0) (e : f_X9_advance N S = some R) (g : f_X12_next N s = some u) : ENW d R.2 u ∧ qj u = qj s ∧ pj R.2 = pj S ∧ u.i 17 = s.i 17 + 1 ∧ (s.i 11).toInt + 1 ≤ (u.i 11).toInt ∧ u.i 20 = s.i 20 ∧ u.a 22 = s.a 22 ∧ R.2.i 22 = S.i 22 ∧ A18 S R.2 ∧ u.i 19 = s.i 19 ∧ ADV S R.2 ∧ (u.i 17).toInt = (s.i 17).toInt + 1 := by
  obtain ⟨b, a, tu, b9⟩ := y_adv hN h.1 e g
  have q1 := krq_f_X12_next N s u g
  have q2 := kc_X9_advance N S R e
  obtain ⟨h1, ⟨n1, n2, n3, n4⟩, ⟨o1, o2, o3⟩, ⟨c1, c2, c3⟩, l1, ⟨m1, m2, m3, m4, m5⟩, ⟨r1, r2, r3, r4, r5, r6, r7, r9, r10, r11⟩⟩ := h
  have e17 : u.i 17 = s.i 17 + 1 := tu.1 17 (by decide) (by decide) (by decide) (by decide)
  have e19 : u.i 19 = s.i 19 := tu.1 19 (by decide) (by decide) (by decide) (by decide)
  have e20 : u.i 20 = s.i 20 := tu.1 20 (by decide) (by decide) (by decide) (by decide)
  have a22 : u.a 22 = s.a 22 := by rw [tu.2.1]; rfl
  have c34 : R.2.i 34 = S.i 34 := a.1.2 34 (by decide) (by decide) (by decide) (by decide)
  have c22 : R.2.i 22 = S.i 22 := a.1.2 22 (by decide) (by decide) (by decide) (by decide)
  have c18' : R.2.a 18 = S.a 18 := by rw [a.1.1.2.2.2.2.2.2.2.2.2.2]
  obtain ⟨-, -, -, -, i13, -, i24, i25, i26, -, -, i37, -, i50, -, -, -, -, -, a9, -, a49, -, er, eo, eol, eb, i21, ehk⟩ := pj_eq q2
  obtain ⟨j2, j3, -, j18, -, -, -, j38, -, -, -, j53, j54, j55, -, -, -, -, -, x4, -, -, -, -, -, -, -, -, x41, -, -, -, -, -, -, -, -, -, -, -, -, -, -, -, -, -, -, -, -, -, -, -, y39, -, -⟩ := qj_eq q1
  have k12 := h1.2.2.2.1.2.1
  have k11 := h1.2.2.2.1.1
  have lc := h1.2.2.2.2.2.2.1.2.2.2.1 hz
  rw [k11, k12] at lc
  have f1 : (s.i 11).toInt + 1 ≤ (u.i 11).toInt := by omega
  have c18 : A18 S R.2 := ⟨c18', by rw [k11, b.2.2.2.1.1]; omega⟩
  have t17 : (s.i 17 + 1).toInt = (s.i 17).toInt + 1 := by
    have := h1.2.2.2.2.1
    have := h1.2.2.1.2.1
    have e1 : (1 : Int32).toInt = 1 := by decide
    unfold phI at r2
    rw [toInt_add] <;> rw [e1] <;> omega
  refine ⟨⟨b, ⟨by rw [i50, j38]; exact n1, by rw [j38]; omega, fun k hk => by rw [j38] at hk; rw [eb, a49, y39, x41]; exact n3 k hk, fun j k hj hk => by rw [j38] at hk; rw [y39]; exact n4 j k hj hk⟩, ⟨by rw [c34, e19]; exact o1, by rw [e19]; exact o2, by rw [e19]; exact o3⟩, ⟨by rw [i24, j53]; exact c1, by rw [i26, j55]; exact c2, by rw [i25, j54]; exact c3⟩, by unfold LTE at *; rw [i37, j18]; exact l1, ⟨by rw [i13, j3]; exact m1, by rw [a9]; exact m2, fun k h1 h2 => by rw [j3] at h2; rw [a9, x4]; exact m3 k h1 h2, by rw [j3]; exact m4, fun k h1 h2 => by rw [j3] at h2; rw [x4]; exact m5 k h1 h2⟩, ⟨by rw [e20]; exact r1, by unfold phI at *; rw [e20, e17, t17]; omega, by rw [e17, t17]; omega, by rw [c22]; exact r4, by rw [c22]; omega, by rw [i21]; exact r6, by rw [i21]; omega, (r9.kp q2 rfl).up (by omega), r10.kp q1, r11.adv hN h1.2.2.2.2.2.2.1 h1.2.2.2.2.2.2.2 eb e⟩⟩, q1, q2, e17, f1, e20, a22, c22, c18, e19, a, by rw [e17, t17]⟩
/-- the rows are paid later than they are pushed -/
theorem PSR.late {S R X : CS} {a m : Nat} {v x3 : Int32} (h : PSR S R a m v x3) (w : RWI S) (hm : (S.i 53).toInt = (m : Int)) (m4 : m < 399) (nv : ¬ v = 300 ∧ ¬ v = 301 ∧ ¬ v = 302 ∧ ¬ v = 303) (er : X.r = R.r) (eL : X.L = R.L) (ek : X.k = R.k) (eh : X.hs = R.hs) (e53 : X.i 53 = R.i 53) (eo : ∀ b : Nat, X.o b 0 = R.o b 0 ∧ X.ol b = R.ol b) (pay : WCS S m + 3 ≤ eI X) (psg : SGS S m + (if v = 302 then 2 else if v = 301 ∨ v = 212 ∨ v = 218 ∨ v = 213 ∨ v = 215 ∨ v = 216 then 1 else 0) ≤ sgI X) : RWI X := by
  obtain ⟨-, -, ⟨j53, -⟩, rr1, rr2, ⟨z1, z2, z3⟩, -, -, ⟨f0, -, -, fl⟩, -, -⟩ := id h
  have es : (cnI S).toNat = m := by
    show (S.i 53).toInt.toNat = m
    rw [hm]
    exact Int.toNat_natCast _
  have nr := w.2.2.2.1.2
  have iq := w.2.2.2.2.1
  rw [es] at nr iq
  have rsq := h.rsq m4
  obtain ⟨u1, u2, -, -, -⟩ := rsq.put nr rr1
  obtain ⟨iq2, wc2⟩ := iq.plain rsq nr rr1 ⟨by rw [f0]; exact nv.1, by rw [f0]; exact nv.2.1, by rw [f0]; exact nv.2.2.1, fun z => nv.2.2.2 (f0.symm.trans z.1)⟩
  have sgn1 : sgn R a = (if v = 302 then 2 else if v = 301 ∨ v = 212 ∨ v = 218 ∨ v = 213 ∨ v = 215 ∨ v = 216 then 1 else 0) := by
    unfold sgn
    rw [f0]
  have e53' : (X.i 53).toInt = (m : Int) + 1 := by rw [e53, j53, ad1 (by omega) (by omega), hm]
  have ec : (cnI X).toNat = m + 1 := by
    show (X.i 53).toInt.toNat = m + 1
    rw [e53']
    omega
  have nrR : NR R (m + 1) := fun i hi => by
    by_cases c : i = m
    · exact ⟨a, by rw [c]; exact rr1⟩
    · obtain ⟨b, hb⟩ := nr i (by omega)
      exact ⟨b, by rw [rr2 51 i (fun z => c z.2)]; exact hb⟩
  have cq : ∀ n : Nat, CSQ R X n := fun n i hi => ⟨by rw [er], fun b _ => eo b⟩
  have sm := (cq (m + 1)).sums nrR
  unfold RWI
  rw [ec]
  refine ⟨fun i b hi hb => ?_, fun i j b hi hj ha hb => ?_, by rw [eL, eh]; exact z3, ⟨by show 0 ≤ (X.i 53).toInt; omega, fun i hi => by rw [er]; exact nrR i hi⟩, fun k hk => ?_, ?_, ?_⟩
  · rw [er] at hb
    have q := z1 i b hi hb
    unfold oK at *
    rw [eL, ek]
    exact q
  · rw [er] at ha hb
    exact z2 i j b hi hj ha hb
  · obtain ⟨i1, i2, i3, i4, i5⟩ := (cq k).sums (fun i hi => nrR i (by omega))
    rw [i1, i3, i4, i5]
    exact iq2 k hk
  · rw [sm.1, wc2]
    exact pay
  · rw [sm.2.1, u2, sgn1]
    exact psg
theorem PSR.sq {S R : CS} {a m : Nat} {v x3 : Int32} (h : PSR S R a m v x3) (hm : (S.i 53).toInt = (m : Int)) (m38 : m ≤ 380) (h54 : 0 ≤ (S.i 54).toInt ∧ (S.i 54).toInt < 2000) : PSQ S R a m v x3 := by
  obtain ⟨zR, r53, r54, r55, r52, r21, r44⟩ := h.z hm (by omega) h54
  obtain ⟨-, j1, -, rr1, -, -, nb, -, ⟨f0, f1, f3, fl⟩, -, ⟨-, -, -, -, f14⟩⟩ := id h
  exact ⟨zR, ⟨r53, r54, r55, r52⟩, ⟨j1 50 (by decide) (by decide), j1 56 (by decide) (by decide), j1 36 (by decide) (by decide)⟩, ⟨hm, m38, rr1⟩, ⟨f0, f1, f3, f14⟩, fun i b hi hb => nb i b (by omega) (by omega) hb⟩
theorem PSQ.nt {N : Nat} {S R : CS} {a m : Nat} {v x3 : Int32} {w : Int32 × CS} (h : PSQ S R a m v x3) (e : f_X0_newTarget N R = some w) : PSQ S w.2 a m v x3 := by
  unfold f_X0_newTarget at e
  cases e
  obtain ⟨⟨c1, c2, c3, c4, c5, c6, c7, c8⟩, ⟨d1, d2, d3, d4⟩, ⟨e1, e2, e3⟩, h4, ⟨f0, f1, f3, f14⟩, h6⟩ := h
  exact ⟨⟨c1, c2, c3, c4, c5, c6, c7, c8⟩, ⟨d1, d2, d3, d4⟩, ⟨e1, e2, e3⟩, h4, ⟨f0, f1, f3, f14⟩, h6⟩
theorem PSQ.kd {S R X : CS} {a m : Nat} {v x3 : Int32} (h : PSQ S R a m v x3) (hm : 0 ≤ (S.i 53).toInt) (e : pj2 X = pj2 R) : PSQ S X a m v x3 := by
  have kp := pj2_eq e
  exact h.cx hm (CKX.of kp.1 kp.2.2.2.2.1 kp.2.2.2.2.2.2.2.2.2.2.2) (pj_54 kp.1) (pj_eq kp.1).2.2.2.2.2.2.2.2.2.2.2.2.2.2.2.2.1 (pj_eq kp.1).2.2.2.2.2.2.2.2.2.2.2.2.2.2.2.2.2.2.2.2.2.2.1
end
