/-! both readers: the loop that a label stands at -/
def isLpR (v : Int32) : Prop := v = 205 ∨ v = 206 ∨ v = 207 ∨ v = 304
theorem lb_z {S : CS} {s : RS} : ∀ (L : List CEL) (c : CEL) (m e k x : Int), STK S s (c :: L) m e k → LBC S s (c :: L) x → ¬ x = -9 → ∀ y ∈ c :: L, S.o y.2.1 0 = 303 → ((∀ w ∈ c :: L, y.1 < w.1 → S.o w.2.1 0 = 303) ∧ ((s.a 46 (ceG y)).toInt = x ∨ (x = -1 ∧ (s.a 46 (ceG y)).toInt = -2))) ∨ (∃ z ∈ c :: L, isLpR (S.o z.2.1 0) ∧ y.1 < z.1 ∧ (∀ w ∈ c :: L, y.1 < w.1 → w.1 < z.1 → S.o w.2.1 0 = 303) ∧ (s.a 46 (ceG y)).toInt = (ceG z : Int)) ∨ (∃ z ∈ c :: L, ¬ S.o z.2.1 0 = 303 ∧ ¬ isLpR (S.o z.2.1 0) ∧ y.1 < z.1 ∧ (∀ w ∈ c :: L, y.1 < w.1 → w.1 < z.1 → S.o w.2.1 0 = 303) ∧ (s.a 46 (ceG y)).toInt < 0)
  | L, c, m, e, k, x, st, lb, nx, y, hy, y303 => by
    have ord := STK.ord L c m e k st
    by_cases cl : S.o c.2.1 0 = 303
    · unfold LBC at lb
      rw [if_pos cl] at lb
      rcases List.mem_cons.mp hy with e0 | hy2
      · refine Or.inl ⟨fun w hw l => ?_, Or.inl ?_⟩
        · rcases List.mem_cons.mp hw with e1 | hw2
          · rw [e1]
            exact cl
          · have := ord w hw2
            rw [e0] at l
            omega
        · rw [e0]
          exact lb.1.resolve_left nx
      · cases L with
        | nil => exact absurd hy2 List.not_mem_nil
        | cons c0 L =>
          obtain ⟨m', e', k', h1, h2, h3⟩ := st
          have nx' : ¬ (if x = -1 then (-2 : Int) else x) = -9 := by
            by_cases z : x = -1
            · rw [if_pos z]; decide
            · rw [if_neg z]; exact nx
          have up : ∀ (P : CEL → Prop), (∀ w ∈ c0 :: L, P w) → P c → ∀ w ∈ c :: c0 :: L, P w := fun P h1 h2 w hw => by
            rcases List.mem_cons.mp hw with e1 | hw
            · rw [e1]; exact h2
            · exact h1 w hw
          rcases lb_z L c0 m' e' k' _ h3 lb.2 nx' y hy2 y303 with ⟨r1, r2⟩ | ⟨z, hz, r1, r2, r3, r4⟩ | ⟨z, hz, r1, r2, r3, r4, r5⟩
          · refine Or.inl ⟨up _ r1 (fun _ => cl), ?_⟩
            by_cases z : x = -1
            · rw [if_pos z] at r2
              rcases r2 with r2 | ⟨r2, -⟩
              · exact Or.inr ⟨z, r2⟩
              · exact absurd r2 (by decide)
            · rw [if_neg z] at r2
              rcases r2 with r2 | ⟨r2, -⟩
              · exact Or.inl r2
              · exact absurd r2 z
          · exact Or.inr (Or.inl ⟨z, List.mem_cons_of_mem _ hz, r1, r2, up _ r3 (fun _ _ => cl), r4⟩)
          · exact Or.inr (Or.inr ⟨z, List.mem_cons_of_mem _ hz, r1, r2, r3, up _ r4 (fun _ _ => cl), r5⟩)
    · have hy2 : y ∈ L := by
        rcases List.mem_cons.mp hy with e0 | hy2
        · rw [e0] at y303
          exact absurd y303 cl
        · exact hy2
      have yc := ord y hy2
      cases L with
      | nil => exact absurd hy2 List.not_mem_nil
      | cons c0 L =>
        obtain ⟨m', e', k', h1, h2, h3⟩ := st
        have upb : (∀ w ∈ c0 :: L, y.1 < w.1 → S.o w.2.1 0 = 303) → ∀ w ∈ c :: c0 :: L, y.1 < w.1 → w.1 < c.1 → S.o w.2.1 0 = 303 := fun h w hw l1 l2 => by
          rcases List.mem_cons.mp hw with e1 | hw
          · rw [e1] at l2
            omega
          · exact h w hw l1
        have upz : ∀ z ∈ c0 :: L, (∀ w ∈ c0 :: L, y.1 < w.1 → w.1 < z.1 → S.o w.2.1 0 = 303) → ∀ w ∈ c :: c0 :: L, y.1 < w.1 → w.1 < z.1 → S.o w.2.1 0 = 303 := fun z hz h w hw l1 l2 => by
          rcases List.mem_cons.mp hw with e1 | hw
          · have := ord z hz
            rw [e1] at l2
            omega
          · exact h w hw l1 l2
        unfold LBC at lb
        rw [if_neg cl] at lb
        by_cases cp : S.o c.2.1 0 = 205 ∨ S.o c.2.1 0 = 206 ∨ S.o c.2.1 0 = 207 ∨ S.o c.2.1 0 = 304
        · rw [if_pos cp] at lb
          rcases lb_z L c0 m' e' k' _ h3 lb (by omega) y hy2 y303 with ⟨r1, r2⟩ | ⟨z, hz, r1, r2, r3, r4⟩ | ⟨z, hz, r1, r2, r3, r4, r5⟩
          · refine Or.inr (Or.inl ⟨c, List.mem_cons_self, cp, yc, upb r1, ?_⟩)
            rcases r2 with r2 | ⟨r2, -⟩
            · exact r2
            · omega
          · exact Or.inr (Or.inl ⟨z, List.mem_cons_of_mem _ hz, r1, r2, upz z hz r3, r4⟩)
          · exact Or.inr (Or.inr ⟨z, List.mem_cons_of_mem _ hz, r1, r2, r3, upz z hz r4, r5⟩)
        · rw [if_neg cp] at lb
          rcases lb_z L c0 m' e' k' _ h3 lb (by decide) y hy2 y303 with ⟨r1, r2⟩ | ⟨z, hz, r1, r2, r3, r4⟩ | ⟨z, hz, r1, r2, r3, r4, r5⟩
          · refine Or.inr (Or.inr ⟨c, List.mem_cons_self, cl, cp, yc, upb r1, ?_⟩)
            rcases r2 with r2 | ⟨-, r2⟩ <;> omega
          · exact Or.inr (Or.inl ⟨z, List.mem_cons_of_mem _ hz, r1, r2, upz z hz r3, r4⟩)
          · exact Or.inr (Or.inr ⟨z, List.mem_cons_of_mem _ hz, r1, r2, r3, upz z hz r4, r5⟩)
/-- the class goes up over labels -/
theorem lp_up {N : Nat} {S : CS} {L : List CEL} {c : CEL} {P : Int32 × CS} {zi : Nat} (hB : BSE S (c :: L)) (h53 : (S.i 53).toInt = (c.1 : Int) + 1) (hz : zi ≤ c.1 + 1) : ∀ (n : Nat) (x2 : Int32) (k : Nat), x2.toInt = (k : Int) → k ≤ zi → (S.i 56).toInt < (k : Int) → (∀ w ∈ c :: L, k ≤ w.1 → w.1 < zi → S.o w.2.1 0 = 303) → f_X6_loopBehind_4 N n S x2 = some P → ∃ (n' : Nat) (x : Int32), x.toInt = (zi : Int) ∧ f_X6_loopBehind_4 N n' S x = some P
  | 0, _, _, _, _, _, _, e => by cases e
  | n + 1, x2, k, hx, hk, h56, hl, e => by
    by_cases c0 : k = zi
    · exact ⟨n + 1, x2, by rw [hx, c0], e⟩
    · have e' : b_X6_loopBehind_4 N (f_X6_loopBehind_4 N n) S x2 = some P := e
      unfold b_X6_loopBehind_4 at e'
      rw [if_neg (show ¬ S.i 53 ≤ x2 from fun q => by have := le_int q; omega)] at e'
      obtain ⟨q, eq, e'⟩ := hf_bind e'
      obtain ⟨w, hw, ew⟩ := (BSE.arm L c hB).2.2.2 k h56 (by omega)
      obtain ⟨w1, w2, w3⟩ := BSE.at L c hB w hw
      rw [row_at (by rw [hx, ← ew]) w1 w2 w3 eq] at e'
      have e2 : (if oK S w.2.1 0 then (if (CS.o S w.2.1 0) = 303 then f_X6_loopBehind_4 N n S (x2 + 1) else f_X6_loopBehind_32 N S x2 (some w.2.1)) else none) = some P := e'
      obtain ⟨-, e2⟩ := hf_ite e2
      rw [if_pos (hl w hw (by omega) (by omega))] at e2
      have x21 : (x2 + 1).toInt = x2.toInt + 1 := ad1 (by omega) (by have := Int32.toInt_lt (S.i 53); omega)
      exact lp_up hB h53 hz n (x2 + 1) (k + 1) (by omega) (by omega) (by omega) (fun v hv l1 l2 => hl v hv (by omega) l2) e2
theorem y_lpC {N : Nat} {S : CS} {s : RS} {L : List CEL} {c y : CEL} {m e k : Int} {x1 : Int32} {P : Int32 × CS} (st : STK S s (c :: L) m e k) (lb : LBC S s (c :: L) (-1)) (hB : BSE S (c :: L)) (h53 : (S.i 53).toInt = (c.1 : Int) + 1) (hy : y ∈ c :: L) (y303 : S.o y.2.1 0 = 303) (hx : x1.toInt = (y.1 : Int)) (ev : f_X6_loopBehind N S x1 = some P) : P.2 = S ∧ ((P.1 = -1 ∧ (s.a 46 (ceG y)).toInt < 0) ∨ ∃ z ∈ c :: L, isLpR (S.o z.2.1 0) ∧ P.1.toInt = (z.1 : Int) ∧ (s.a 46 (ceG y)).toInt = (ceG z : Int)) := by
  have ev' : f_X6_loopBehind_4 N N S (x1 + 1) = some P := ev
  have ord : ∀ w ∈ c :: L, w.1 ≤ c.1 := (BSE.lo L c hB).2
  have yl := ord y hy
  have yb := BSE.at L c hB y hy
  have y56 : (S.i 56).toInt ≤ (y.1 : Int) := by
    have z1 := BSE.arm L c hB
    by_cases q : (S.i 56).toInt ≤ (y.1 : Int)
    · exact q
    · exfalso
      have z2 := z1.2.1 
      have z3 : ∀ (L : List CEL) (c : CEL), BSE S (c :: L) → ∀ w ∈ c :: L, (S.i 56).toInt ≤ (w.1 : Int) := by
        intro L
        induction L with
        | nil =>
          intro c h w hw
          rcases List.mem_cons.mp hw with rfl | hw
          · exact (BSE.lo [] w h).1
          · exact absurd hw List.not_mem_nil
        | cons c0 L ih =>
          intro c h w hw
          rcases List.mem_cons.mp hw with rfl | hw
          · exact (BSE.lo (c0 :: L) w h).1
          · exact ih c0 h.2.2.2.2 w hw
      exact q (z3 L c hB y hy)
  have hi := Int32.toInt_lt (S.i 53)
  have x11 : (x1 + 1).toInt = ((y.1 + 1 : Nat) : Int) := by
    rw [ad1 (by omega) (by omega), hx]
    omega
  rcases lb_z L c m e k (-1) st lb (by decide) y hy y303 with ⟨r1, r2⟩ | ⟨z, hz, r1, r2, r3, r4⟩ | ⟨z, hz, r1, r2, r3, r4, r5⟩
  · -- labels up to the top
    obtain ⟨n', x, hx', e2⟩ := lp_up hB h53 (Nat.le_refl (c.1 + 1)) N (x1 + 1) (y.1 + 1) x11 (by omega) (by omega) (fun w hw l1 _ => r1 w hw (by omega)) ev'
    cases n' with
    | zero => cases e2
    | succ n' =>
      have e3 : b_X6_loopBehind_4 N (f_X6_loopBehind_4 N n') S x = some P := e2
      unfold b_X6_loopBehind_4 at e3
      rw [if_pos (show S.i 53 ≤ x by rw [Int32.le_iff_toInt_le]; omega)] at e3
      cases e3
      refine ⟨rfl, Or.inl ⟨rfl, ?_⟩⟩
      rcases r2 with r2 | ⟨-, r2⟩ <;> omega
  · have zl := ord z hz
    obtain ⟨n', x, hx', e2⟩ := lp_up hB h53 (show z.1 ≤ c.1 + 1 by omega) N (x1 + 1) (y.1 + 1) x11 (by omega) (by omega) (fun w hw l1 l2 => r3 w hw (by omega) l2) ev'
    cases n' with
    | zero => cases e2
    | succ n' =>
      have e3 : b_X6_loopBehind_4 N (f_X6_loopBehind_4 N n') S x = some P := e2
      unfold b_X6_loopBehind_4 at e3
      rw [if_neg (show ¬ S.i 53 ≤ x from fun q => by have := le_int q; omega)] at e3
      obtain ⟨q, eq, e3⟩ := hf_bind e3
      obtain ⟨w1, w2, w3⟩ := BSE.at L c hB z hz
      rw [row_at hx' w1 w2 w3 eq] at e3
      have e4 : (if oK S z.2.1 0 then (if (CS.o S z.2.1 0) = 303 then f_X6_loopBehind_4 N n' S (x + 1) else f_X6_loopBehind_32 N S x (some z.2.1)) else none) = some P := e3
      obtain ⟨-, e4⟩ := hf_ite e4
      rw [if_neg (fun q => by
        rcases r1 with h | h | h | h <;> rw [h] at q <;> exact absurd q (by decide))] at e4
      have e5 : (if oK S z.2.1 0 then (f_X5_isLoop N S z.2.1).bind fun p12 => (if p12.1 = 0 then f_X6_loopBehind_47 N p12.2 else some (x, p12.2)) else none) = some P := e4
      obtain ⟨-, e5⟩ := hf_ite e5
      obtain ⟨lp, elp, e5⟩ := hf_bind e5
      have hl : lp = (1, S) := by
        unfold f_X5_isLoop f_X5_isLoop_40 at elp
        obtain ⟨-, elp⟩ := hf_ite elp
        by_cases d1 : S.o z.2.1 0 = 205
        · rw [if_pos d1] at elp
          cases elp
          rfl
        rw [if_neg d1] at elp
        by_cases d2 : S.o z.2.1 0 = 206
        · rw [if_pos d2] at elp
          cases elp
          rfl
        rw [if_neg d2] at elp
        by_cases d3 : S.o z.2.1 0 = 207
        · rw [if_pos d3] at elp
          cases elp
          rfl
        rw [if_neg d3] at elp
        by_cases d4 : S.o z.2.1 0 = 304
        · rw [if_pos d4] at elp
          cases elp
          rfl
        · exfalso
          rcases r1 with h | h | h | h
          · exact d1 h
          · exact d2 h
          · exact d3 h
          · exact d4 h
      rw [hl, if_neg n10] at e5
      cases e5
      exact ⟨rfl, Or.inr ⟨z, hz, r1, hx', r4⟩⟩
  · have zl := ord z hz
    obtain ⟨n', x, hx', e2⟩ := lp_up hB h53 (show z.1 ≤ c.1 + 1 by omega) N (x1 + 1) (y.1 + 1) x11 (by omega) (by omega) (fun w hw l1 l2 => r4 w hw (by omega) l2) ev'
    cases n' with
    | zero => cases e2
    | succ n' =>
      have e3 : b_X6_loopBehind_4 N (f_X6_loopBehind_4 N n') S x = some P := e2
      unfold b_X6_loopBehind_4 at e3
      rw [if_neg (show ¬ S.i 53 ≤ x from fun q => by have := le_int q; omega)] at e3
      obtain ⟨q, eq, e3⟩ := hf_bind e3
      obtain ⟨w1, w2, w3⟩ := BSE.at L c hB z hz
      rw [row_at hx' w1 w2 w3 eq] at e3
      have e4 : (if oK S z.2.1 0 then (if (CS.o S z.2.1 0) = 303 then f_X6_loopBehind_4 N n' S (x + 1) else f_X6_loopBehind_32 N S x (some z.2.1)) else none) = some P := e3
      obtain ⟨-, e4⟩ := hf_ite e4
      rw [if_neg r1] at e4
      have e5 : (if oK S z.2.1 0 then (f_X5_isLoop N S z.2.1).bind fun p12 => (if p12.1 = 0 then f_X6_loopBehind_47 N p12.2 else some (x, p12.2)) else none) = some P := e4
      obtain ⟨-, e5⟩ := hf_ite e5
      obtain ⟨lp, elp, e5⟩ := hf_bind e5
      have hl : lp = (0, S) := by
        unfold f_X5_isLoop f_X5_isLoop_40 at elp
        obtain ⟨-, elp⟩ := hf_ite elp
        rw [if_neg (fun h => r2 (Or.inl h)), if_neg (fun h => r2 (Or.inr (Or.inl h))), if_neg (fun h => r2 (Or.inr (Or.inr (Or.inl h)))), if_neg (fun h => r2 (Or.inr (Or.inr (Or.inr h))))] at elp
        cases elp
        rfl
      rw [hl] at e5
      have e6 : f_X6_loopBehind_47 N S = some P := (if_pos rfl).symm.trans e5
      unfold f_X6_loopBehind_47 at e6
      cases e6
      exact ⟨rfl, Or.inl ⟨rfl, r5⟩⟩
