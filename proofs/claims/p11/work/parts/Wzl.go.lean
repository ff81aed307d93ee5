/-! both readers: frames by sort; a statement's first step -/
theorem RFR.m300 {S : CS} {s : RS} {a t g w : Nat} (e : S.o a 0 = 300) (h : s.a 64 t = 1) : RFR S s a t g w := by
  have n : ∀ v : Int32, ¬ v = 300 → ¬ S.o a 0 = v := fun v hv q => hv (q.symm.trans e)
  refine ⟨fun _ => h, fun q => absurd q (n 301 (by decide)), fun q => absurd q (n 302 (by decide)), fun q => absurd q (n 303 (by decide)), fun q => absurd q (n 203 (by decide)), fun q => absurd q (n 204 (by decide)), fun q => absurd q (n 205 (by decide)), fun q => absurd q (n 206 (by decide)), fun q => absurd q (n 207 (by decide)), fun q => absurd q (n 304 (by decide)), fun q => absurd q (n 212 (by decide)), fun q => absurd q (n 218 (by decide)), fun q => ?_⟩
  rcases q with z | z | z | z
  · exact absurd z (n 213 (by decide))
  · exact absurd z (n 215 (by decide))
  · exact absurd z (n 305 (by decide))
  · exact absurd z (n 216 (by decide))
theorem RFR.m302 {S : CS} {s : RS} {a t g w : Nat} (e : S.o a 0 = 302) (h : F302 s t (S.o a 3)) : RFR S s a t g w := by
  have n : ∀ v : Int32, ¬ v = 302 → ¬ S.o a 0 = v := fun v hv q => hv (q.symm.trans e)
  refine ⟨fun q => absurd q (n 300 (by decide)), fun q => absurd q (n 301 (by decide)), fun _ => h, fun q => absurd q (n 303 (by decide)), fun q => absurd q (n 203 (by decide)), fun q => absurd q (n 204 (by decide)), fun q => absurd q (n 205 (by decide)), fun q => absurd q (n 206 (by decide)), fun q => absurd q (n 207 (by decide)), fun q => absurd q (n 304 (by decide)), fun q => absurd q (n 212 (by decide)), fun q => absurd q (n 218 (by decide)), fun q => ?_⟩
  rcases q with z | z | z | z
  · exact absurd z (n 213 (by decide))
  · exact absurd z (n 215 (by decide))
  · exact absurd z (n 305 (by decide))
  · exact absurd z (n 216 (by decide))
theorem RFR.m303 {S : CS} {s : RS} {a t g w : Nat} (e : S.o a 0 = 303) (h : F303 s t g (S.ol a)) : RFR S s a t g w := by
  have n : ∀ v : Int32, ¬ v = 303 → ¬ S.o a 0 = v := fun v hv q => hv (q.symm.trans e)
  refine ⟨fun q => absurd q (n 300 (by decide)), fun q => absurd q (n 301 (by decide)), fun q => absurd q (n 302 (by decide)), fun _ => h, fun q => absurd q (n 203 (by decide)), fun q => absurd q (n 204 (by decide)), fun q => absurd q (n 205 (by decide)), fun q => absurd q (n 206 (by decide)), fun q => absurd q (n 207 (by decide)), fun q => absurd q (n 304 (by decide)), fun q => absurd q (n 212 (by decide)), fun q => absurd q (n 218 (by decide)), fun q => ?_⟩
  rcases q with z | z | z | z
  · exact absurd z (n 213 (by decide))
  · exact absurd z (n 215 (by decide))
  · exact absurd z (n 305 (by decide))
  · exact absurd z (n 216 (by decide))
theorem RFR.m203 {S : CS} {s : RS} {a t g w : Nat} (e : S.o a 0 = 203) (h : F203 s t) : RFR S s a t g w := by
  have n : ∀ v : Int32, ¬ v = 203 → ¬ S.o a 0 = v := fun v hv q => hv (q.symm.trans e)
  refine ⟨fun q => absurd q (n 300 (by decide)), fun q => absurd q (n 301 (by decide)), fun q => absurd q (n 302 (by decide)), fun q => absurd q (n 303 (by decide)), fun _ => h, fun q => absurd q (n 204 (by decide)), fun q => absurd q (n 205 (by decide)), fun q => absurd q (n 206 (by decide)), fun q => absurd q (n 207 (by decide)), fun q => absurd q (n 304 (by decide)), fun q => absurd q (n 212 (by decide)), fun q => absurd q (n 218 (by decide)), fun q => ?_⟩
  rcases q with z | z | z | z
  · exact absurd z (n 213 (by decide))
  · exact absurd z (n 215 (by decide))
  · exact absurd z (n 305 (by decide))
  · exact absurd z (n 216 (by decide))
theorem RFR.m204 {S : CS} {s : RS} {a t g w : Nat} (e : S.o a 0 = 204) (h : F204 s t (S.o a 6)) : RFR S s a t g w := by
  have n : ∀ v : Int32, ¬ v = 204 → ¬ S.o a 0 = v := fun v hv q => hv (q.symm.trans e)
  refine ⟨fun q => absurd q (n 300 (by decide)), fun q => absurd q (n 301 (by decide)), fun q => absurd q (n 302 (by decide)), fun q => absurd q (n 303 (by decide)), fun q => absurd q (n 203 (by decide)), fun _ => h, fun q => absurd q (n 205 (by decide)), fun q => absurd q (n 206 (by decide)), fun q => absurd q (n 207 (by decide)), fun q => absurd q (n 304 (by decide)), fun q => absurd q (n 212 (by decide)), fun q => absurd q (n 218 (by decide)), fun q => ?_⟩
  rcases q with z | z | z | z
  · exact absurd z (n 213 (by decide))
  · exact absurd z (n 215 (by decide))
  · exact absurd z (n 305 (by decide))
  · exact absurd z (n 216 (by decide))
theorem RFR.m205 {S : CS} {s : RS} {a t g w : Nat} (e : S.o a 0 = 205) (h : F205 s t g (S.o a 7)) : RFR S s a t g w := by
  have n : ∀ v : Int32, ¬ v = 205 → ¬ S.o a 0 = v := fun v hv q => hv (q.symm.trans e)
  refine ⟨fun q => absurd q (n 300 (by decide)), fun q => absurd q (n 301 (by decide)), fun q => absurd q (n 302 (by decide)), fun q => absurd q (n 303 (by decide)), fun q => absurd q (n 203 (by decide)), fun q => absurd q (n 204 (by decide)), fun _ => h, fun q => absurd q (n 206 (by decide)), fun q => absurd q (n 207 (by decide)), fun q => absurd q (n 304 (by decide)), fun q => absurd q (n 212 (by decide)), fun q => absurd q (n 218 (by decide)), fun q => ?_⟩
  rcases q with z | z | z | z
  · exact absurd z (n 213 (by decide))
  · exact absurd z (n 215 (by decide))
  · exact absurd z (n 305 (by decide))
  · exact absurd z (n 216 (by decide))
theorem RFR.m206 {S : CS} {s : RS} {a t g w : Nat} (e : S.o a 0 = 206) (h : F206 s t g) : RFR S s a t g w := by
  have n : ∀ v : Int32, ¬ v = 206 → ¬ S.o a 0 = v := fun v hv q => hv (q.symm.trans e)
  refine ⟨fun q => absurd q (n 300 (by decide)), fun q => absurd q (n 301 (by decide)), fun q => absurd q (n 302 (by decide)), fun q => absurd q (n 303 (by decide)), fun q => absurd q (n 203 (by decide)), fun q => absurd q (n 204 (by decide)), fun q => absurd q (n 205 (by decide)), fun _ => h, fun q => absurd q (n 207 (by decide)), fun q => absurd q (n 304 (by decide)), fun q => absurd q (n 212 (by decide)), fun q => absurd q (n 218 (by decide)), fun q => ?_⟩
  rcases q with z | z | z | z
  · exact absurd z (n 213 (by decide))
  · exact absurd z (n 215 (by decide))
  · exact absurd z (n 305 (by decide))
  · exact absurd z (n 216 (by decide))
theorem RFR.m207 {S : CS} {s : RS} {a t g w : Nat} (e : S.o a 0 = 207) (h : F207 s t g (S.o a 3) (S.o a 7)) : RFR S s a t g w := by
  have n : ∀ v : Int32, ¬ v = 207 → ¬ S.o a 0 = v := fun v hv q => hv (q.symm.trans e)
  refine ⟨fun q => absurd q (n 300 (by decide)), fun q => absurd q (n 301 (by decide)), fun q => absurd q (n 302 (by decide)), fun q => absurd q (n 303 (by decide)), fun q => absurd q (n 203 (by decide)), fun q => absurd q (n 204 (by decide)), fun q => absurd q (n 205 (by decide)), fun q => absurd q (n 206 (by decide)), fun _ => h, fun q => absurd q (n 304 (by decide)), fun q => absurd q (n 212 (by decide)), fun q => absurd q (n 218 (by decide)), fun q => ?_⟩
  rcases q with z | z | z | z
  · exact absurd z (n 213 (by decide))
  · exact absurd z (n 215 (by decide))
  · exact absurd z (n 305 (by decide))
  · exact absurd z (n 216 (by decide))
theorem RFR.m304 {S : CS} {s : RS} {a t g w : Nat} (e : S.o a 0 = 304) (h : F304 s t g (S.o a 3) ∧ S.o a 7 = 0) : RFR S s a t g w := by
  have n : ∀ v : Int32, ¬ v = 304 → ¬ S.o a 0 = v := fun v hv q => hv (q.symm.trans e)
  refine ⟨fun q => absurd q (n 300 (by decide)), fun q => absurd q (n 301 (by decide)), fun q => absurd q (n 302 (by decide)), fun q => absurd q (n 303 (by decide)), fun q => absurd q (n 203 (by decide)), fun q => absurd q (n 204 (by decide)), fun q => absurd q (n 205 (by decide)), fun q => absurd q (n 206 (by decide)), fun q => absurd q (n 207 (by decide)), fun _ => h, fun q => absurd q (n 212 (by decide)), fun q => absurd q (n 218 (by decide)), fun q => ?_⟩
  rcases q with z | z | z | z
  · exact absurd z (n 213 (by decide))
  · exact absurd z (n 215 (by decide))
  · exact absurd z (n 305 (by decide))
  · exact absurd z (n 216 (by decide))
theorem RFR.m212 {S : CS} {s : RS} {a t g w : Nat} (e : S.o a 0 = 212) (h : F212 s t (S.o a 3)) : RFR S s a t g w := by
  have n : ∀ v : Int32, ¬ v = 212 → ¬ S.o a 0 = v := fun v hv q => hv (q.symm.trans e)
  refine ⟨fun q => absurd q (n 300 (by decide)), fun q => absurd q (n 301 (by decide)), fun q => absurd q (n 302 (by decide)), fun q => absurd q (n 303 (by decide)), fun q => absurd q (n 203 (by decide)), fun q => absurd q (n 204 (by decide)), fun q => absurd q (n 205 (by decide)), fun q => absurd q (n 206 (by decide)), fun q => absurd q (n 207 (by decide)), fun q => absurd q (n 304 (by decide)), fun _ => h, fun q => absurd q (n 218 (by decide)), fun q => ?_⟩
  rcases q with z | z | z | z
  · exact absurd z (n 213 (by decide))
  · exact absurd z (n 215 (by decide))
  · exact absurd z (n 305 (by decide))
  · exact absurd z (n 216 (by decide))
theorem RFR.m218 {S : CS} {s : RS} {a t g w : Nat} (e : S.o a 0 = 218) (h : F218 s t g (S.o a 3) (S.o a 11)) : RFR S s a t g w := by
  have n : ∀ v : Int32, ¬ v = 218 → ¬ S.o a 0 = v := fun v hv q => hv (q.symm.trans e)
  refine ⟨fun q => absurd q (n 300 (by decide)), fun q => absurd q (n 301 (by decide)), fun q => absurd q (n 302 (by decide)), fun q => absurd q (n 303 (by decide)), fun q => absurd q (n 203 (by decide)), fun q => absurd q (n 204 (by decide)), fun q => absurd q (n 205 (by decide)), fun q => absurd q (n 206 (by decide)), fun q => absurd q (n 207 (by decide)), fun q => absurd q (n 304 (by decide)), fun q => absurd q (n 212 (by decide)), fun _ => h, fun q => ?_⟩
  rcases q with z | z | z | z
  · exact absurd z (n 213 (by decide))
  · exact absurd z (n 215 (by decide))
  · exact absurd z (n 305 (by decide))
  · exact absurd z (n 216 (by decide))
theorem WAY.nu {d : Int32} {T : Nat} {p f k y z p' f' k' y' z' : Int} {S P : CS} {s q : RS} (h : WAY d T p f k y z S s P q) (hp : p' ≤ p) (hf : f' ≤ f) (hk : k' = k) (hy : y ≤ y') (hz : z' ≤ z) : WAY d T p' f' k' y' z' S s P q := by
  obtain ⟨h1, h2, h3, h4, h5, i, ⟨h6, h7, h8, h9⟩, ⟨h10, h11, h12⟩⟩ := h
  exact ⟨h1, h2, h3, h4, h5, i, ⟨by omega, by omega, h8, by omega⟩, ⟨by omega, by omega, h12⟩⟩
/-- which frame a word begins -/
def kwd (v K : Int32) : Prop := (v = 413 ∧ K = 9) ∨ (v = 415 ∧ K = 10) ∨ (v = 416 ∧ K = 11) ∨ (v = 417 ∧ K = 12) ∨ (v = 422 ∧ K = 13) ∨ (v = 428 ∧ K = 14) ∨ (v = 423 ∧ K = 15) ∨ (v = 410 ∧ K = 4) ∨ (v = 411 ∧ K = 4) ∨ (v = 412 ∧ K = 6) ∨ (v = 420 ∧ K = 6) ∨ (v = 431 ∧ K = 6) ∨ (v = 421 ∧ K = 7) ∨ (v = 427 ∧ K = 8) ∨ (v = 2 ∧ K = 5)
theorem r_stat {N T : Nat} {s V : RS} {v K : Int32} (ht : tpI s = (T : Int)) (h10 : s.i 10 = v) (hv : kwd v K) (h : f_X12_stat N s (s.i 63) = some V) : f_X12_stat_240 N (RS.setA (RS.setI s 53 ((s.i 53) + 1)) 64 T K) (s.i 63) = some V := by
  unfold f_X12_stat at h
  rw [h10, tp_nat ht] at h
  rcases hv with ⟨rfl, rfl⟩ | ⟨rfl, rfl⟩ | ⟨rfl, rfl⟩ | ⟨rfl, rfl⟩ | ⟨rfl, rfl⟩ | ⟨rfl, rfl⟩ | ⟨rfl, rfl⟩ | ⟨rfl, rfl⟩ | ⟨rfl, rfl⟩ | ⟨rfl, rfl⟩ | ⟨rfl, rfl⟩ | ⟨rfl, rfl⟩ | ⟨rfl, rfl⟩ | ⟨rfl, rfl⟩ | ⟨rfl, rfl⟩
  · iterate 9 rw [if_neg (by decide)] at h
    rw [if_pos rfl] at h
    exact (hf_ite h).2
  · iterate 10 rw [if_neg (by decide)] at h
    rw [if_pos rfl] at h
    exact (hf_ite h).2
  · iterate 11 rw [if_neg (by decide)] at h
    rw [if_pos rfl] at h
    exact (hf_ite h).2
  · iterate 12 rw [if_neg (by decide)] at h
    rw [if_pos rfl] at h
    exact (hf_ite h).2
  · iterate 13 rw [if_neg (by decide)] at h
    rw [if_pos rfl] at h
    exact (hf_ite h).2
  · iterate 14 rw [if_neg (by decide)] at h
    rw [if_pos rfl] at h
    exact (hf_ite h).2
  · iterate 15 rw [if_neg (by decide)] at h
    rw [if_pos rfl] at h
    exact (hf_ite h).2
  · iterate 1 rw [if_neg (by decide)] at h
    rw [if_pos rfl] at h
    exact (hf_ite h).2
  · iterate 2 rw [if_neg (by decide)] at h
    rw [if_pos rfl] at h
    exact (hf_ite h).2
  · iterate 4 rw [if_neg (by decide)] at h
    rw [if_pos rfl] at h
    exact (hf_ite h).2
  · iterate 5 rw [if_neg (by decide)] at h
    rw [if_pos rfl] at h
    exact (hf_ite h).2
  · iterate 6 rw [if_neg (by decide)] at h
    rw [if_pos rfl] at h
    exact (hf_ite h).2
  · iterate 7 rw [if_neg (by decide)] at h
    rw [if_pos rfl] at h
    exact (hf_ite h).2
  · iterate 8 rw [if_neg (by decide)] at h
    rw [if_pos rfl] at h
    exact (hf_ite h).2
  · iterate 3 rw [if_neg (by decide)] at h
    rw [if_pos rfl] at h
    exact (hf_ite h).2
/-- the first step of a statement that begins with a word: counted, its frame has its sort, an instruction more in both -/
theorem st_gj {N : Nat} {d : Int32} {B : CS} {b : RS} {t0 T n : Nat} {L : List CEL} {x : Int} {S : CS} {s U : RS} {c : CEL} {v K : Int32} {p : Unit × CS} (hC : COR d B b t0 (c :: L) x S s) (hS : STO c T S s) (h10 : s.i 10 = v) (hk : kwd v K) (k5 : ¬ K = 5) (e1 : f_X0_add N (CS.setI (CS.setI S 36 1) 24 ((S.i 24) + 1)) 51 0 = some p) (g : f_X12_parse_10 N n s = some U) : ∃ (m : Nat) (q : RS), f_X12_parse_10 N m q = some U ∧ WAY d T 0 (-1) 0 0 0 S s p.2 q ∧ q.a 64 T = K ∧ q.a 65 T = 0 ∧ p.2.i 43 = S.i 43 ∧ q.i 10 = v ∧ 3 ≤ phI s ∧ p.2.i 21 = S.i 21 ∧ q.i 11 = s.i 11 ∧ JST N S s p.2 q := by
  obtain ⟨q1, q2, q3, q4, q5, q6⟩ := id hS
  have hv := hC.1
  obtain ⟨m1, V1, hV1, g1⟩ := rl_2 g q4 hv.1.2.1 q5
  have hV2 := r_stat q4 h10 hk hV1
  have ph3 : 3 ≤ phI s := by
    have a := hC.2.2.2.2.2.2.1.2.1
    have b := (PDM.ge S (c :: L)).1
    have e := hC.2.2.2.2.2.2.2.2.2.2.2.1
    omega
  have w0 := WAY.stm (K := K) hv q4
  have k2 : ¬ K = 2 := by
    rcases hk with ⟨-, z⟩ | ⟨-, z⟩ | ⟨-, z⟩ | ⟨-, z⟩ | ⟨-, z⟩ | ⟨-, z⟩ | ⟨-, z⟩ | ⟨-, z⟩ | ⟨-, z⟩ | ⟨-, z⟩ | ⟨-, z⟩ | ⟨-, z⟩ | ⟨-, z⟩ | ⟨-, z⟩ | ⟨-, z⟩ <;> rw [z] <;> decide
  obtain ⟨s1, hs1⟩ : ∃ y, y = RS.setA (RS.setI s 53 ((s.i 53) + 1)) 64 T K := ⟨_, rfl⟩
  obtain ⟨S1, hS1⟩ : ∃ y, y = CS.setI (CS.setI S 36 1) 24 ((S.i 24) + 1) := ⟨_, rfl⟩
  have i1 : ∀ k : Nat, k ≠ 53 → s1.i k = s.i k := by
    rw [hs1]
    exact fun k h => if_neg h
  have a64 : s1.a 64 T = K := by
    rw [hs1]
    exact setA_at
  have aq : ∀ k : Nat, k ≠ 64 → s1.a k = s.a k := by
    rw [hs1]
    exact fun k h => setA_nk h
  have iS : ∀ k : Nat, k ≠ 36 → k ≠ 24 → S1.i k = S.i k := by
    rw [hS1]
    exact fun k h1 h2 => (ci_ne _ _ _ h2).trans (ci_ne _ _ _ h1)
  have peS : pe S1 = pe S := by rw [hS1]; rfl
  have aS : S1.a = S.a := by rw [hS1]; rfl
  have qs : qe s1 = qe s := by rw [hs1]; rfl
  rw [← hs1] at hV2 w0
  rw [← hS1] at e1 w0
  clear hs1 hS1
  have p1 : phI s1 = phI s := by
    unfold phI
    rw [i1 17 (by decide), i1 20 (by decide)]
  unfold f_X12_stat_240 at hV2
  obtain ⟨-, hV2⟩ := hf_ite hV2
  rw [tp_nat q4, a64, if_neg k2, if_neg k5] at hV2
  obtain ⟨y, hy, hV2⟩ := hf_bind hV2
  cases hV2
  obtain ⟨w1, f1, -, -, y10⟩ := w0.em (by omega) hy
  have w2 := w1.ad e1
  obtain ⟨-, -, i43, i21⟩ := y_add w1.1 e1
  have z11 := (y_emit w0.1 w0.2.1 (by omega) hy).2.2.2.2.2.2.2.1
  have yb := y_emit w0.1 w0.2.1 (by omega) hy
  have cS : CD1 0 0 S S1 := (CD1.pe (b := 0) peS (iS 21 (by decide) (by decide)) (iS 50 (by decide) (by decide)) (by rw [aS]) (by rw [aS]) (by rw [iS 44 (by decide) (by decide)]; omega)).wk (by omega) (by omega)
  have jst : JST N S s p.2 y.2 := ⟨d, S1, s1, p, y, w0.1, cS, fun _ _ => CT7.eq (by rw [aS]), fun _ => CD2.qe qs, iS 20 (by decide) (by decide), i1 20 (by decide), by omega, e1, hy, rfl, rfl, ⟨yb.2.2.2.1.1.1.2.2.2.1.trans (i1 38 (by decide)), fun j hj => ((yb.2.2.2.1.1.2.1 j (by rw [i1 38 (by decide)]; exact hj)).2.1).trans (by rw [aq 40 (by decide)])⟩, i1 38 (by decide), fun j _ => by rw [aq 40 (by decide)]⟩
  exact ⟨m1, y.2, g1, w2.nu (by omega) (by omega) (by omega) (by omega) (by omega), (f1 (T + 1) T (by omega)).1.trans a64, (f1 (T + 1) T (by omega)).2.1.trans (by rw [aq 65 (by decide)]; exact q6), i43.trans (iS 43 (by decide) (by decide)), by rw [y10, i1 10 (by decide)]; exact h10, ph3, i21.trans (iS 21 (by decide) (by decide)), z11.trans (i1 11 (by decide)), jst⟩
theorem st_go {N : Nat} {d : Int32} {B : CS} {b : RS} {t0 T n : Nat} {L : List CEL} {x : Int} {S : CS} {s U : RS} {c : CEL} {v K : Int32} {p : Unit × CS} (hC : COR d B b t0 (c :: L) x S s) (hS : STO c T S s) (h10 : s.i 10 = v) (hk : kwd v K) (k5 : ¬ K = 5) (e1 : f_X0_add N (CS.setI (CS.setI S 36 1) 24 ((S.i 24) + 1)) 51 0 = some p) (g : f_X12_parse_10 N n s = some U) : ∃ (m : Nat) (q : RS), f_X12_parse_10 N m q = some U ∧ WAY d T 0 (-1) 0 0 0 S s p.2 q ∧ q.a 64 T = K ∧ q.a 65 T = 0 ∧ p.2.i 43 = S.i 43 ∧ q.i 10 = v ∧ 3 ≤ phI s ∧ p.2.i 21 = S.i 21 ∧ q.i 11 = s.i 11 := by
  obtain ⟨m, q, h1, h2, h3, h4, h5, h6, h7, h8, h9, -⟩ := st_gj hC hS h10 hk k5 e1 g
  exact ⟨m, q, h1, h2, h3, h4, h5, h6, h7, h8, h9⟩
/-- a row more without a goal, no switch; what it waits for is new -/
theorem COL.addp {S : CS} {s : RS} {L : List CEL} {c1 : CEL} {col : Nat → Option (Nat × Bool)} {b20 : Int} (h : COL S s L col b20) (ng : ¬ isGo (S.o c1.2.1 0)) (ns : ¬ S.o c1.2.1 0 = 218) (np : ∀ k : Int, PLF S s c1 k → b20 ≤ k ∧ k < (s.i 20).toInt ∧ col k.toNat = none ∧ ∀ q ∈ L, S.o q.2.1 0 = 218 → ¬ k = (s.a 66 (ceT q)).toInt) : COL S s (c1 :: L) col b20 := by
  obtain ⟨h1, h2, h3, h4, h5, h6, h7⟩ := h
  refine ⟨h1, h2, fun c hc q => ?_, fun k g e q => ?_, fun c hc q => ?_, fun c hc q hq t1 t2 l => ?_, fun c hc k p => ?_⟩
  · rcases List.mem_cons.mp hc with rfl | hc
    · exact absurd q ng
    · exact h3 c hc q
  · obtain ⟨c, hc, g1, g2⟩ := h4 k g e q
    exact ⟨c, List.mem_cons_of_mem _ hc, g1, g2⟩
  · rcases List.mem_cons.mp hc with rfl | hc
    · exact absurd q ns
    · exact h5 c hc q
  · rcases List.mem_cons.mp hc with rfl | hc
    · exact absurd t1 ns
    · rcases List.mem_cons.mp hq with rfl | hq
      · exact absurd t2 ns
      · exact h6 c hc q hq t1 t2 l
  · rcases List.mem_cons.mp hc with rfl | hc
    · obtain ⟨z1, z2, z3, z4⟩ := np k p
      refine ⟨z1, z2, z3, fun q hq t => ?_⟩
      rcases List.mem_cons.mp hq with rfl | hq
      · exact absurd t ns
      · exact z4 q hq t
    · obtain ⟨z1, z2, z3, z4⟩ := h7 c hc k p
      refine ⟨z1, z2, z3, fun q hq t => ?_⟩
      rcases List.mem_cons.mp hq with rfl | hq
      · exact absurd t ns
      · exact z4 q hq t
/-- a place of code that is new belongs to no chain and is no head -/
theorem COL.fresh {S : CS} {s : RS} {L : List CEL} {col : Nat → Option (Nat × Bool)} {b20 : Int} (h : COL S s L col b20) {k : Int} (h0 : 0 ≤ (s.i 20).toInt) (hk : (s.i 20).toInt ≤ k) : col k.toNat = none ∧ ∀ q ∈ L, S.o q.2.1 0 = 218 → ¬ k = (s.a 66 (ceT q)).toInt := by
  obtain ⟨h1, h2, h3, h4, h5, h6, h7⟩ := h
  refine ⟨?_, fun q hq t z => ?_⟩
  · cases e : col k.toNat with
    | none => rfl
    | some x =>
      have := (h1 _ x e).2
      omega
  · have := (h5 q hq t).2.1
    omega
/-- names along a way -/
theorem WAY.nv {d : Int32} {T : Nat} {p f k y z : Int} {S P : CS} {s q : RS} (w : WAY d T p f k y z S s P q) : NMV s q := NMV.tbk w.2.2.2.1
theorem WAY.l11 {d : Int32} {T : Nat} {p f k y z : Int} {S P : CS} {s q : RS} (w : WAY d T p f k y z S s P q) : (s.i 11).toInt + p ≤ (q.i 11).toInt := w.2.2.2.2.2.2.1.1
theorem WAY.l19 {d : Int32} {T : Nat} {p f k y z : Int} {S P : CS} {s q : RS} (w : WAY d T p f k y z S s P q) : (q.i 19).toInt = (s.i 19).toInt + k := w.2.2.2.2.2.2.1.2.2.2
