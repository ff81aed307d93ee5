/-! reading: a statement's first step -/
def SQ (s : RS) (t : Nat) (K : Int32) : RS := RS.setA (RS.setI s 53 ((s.i 53) + 1)) 64 t K
theorem SQ.tbl (s : RS) (t : Nat) (K : Int32) : TBL s (SQ s t K) := ⟨fun k hk => if_neg (by omega), rfl, fun j _ h _ _ => if_neg (by omega)⟩
theorem SQ.kp (s : RS) (t : Nat) (K : Int32) : KP t s (SQ s t K) := ((KP.rf t s).i53 _).loc t K (by omega) (by omega) (Nat.le_refl _)
theorem SQ.inv {s : RS} {t : Nat} {K : Int32} (h : INV s) : INV (SQ s t K) := h.tbl (SQ.tbl s t K) h.1 h.2.2.1 rfl rfl h.r (Int.le_refl _) h.2.2.2.2.2.2.2.2.2.2.2.2.2.2.2
theorem SQ.a64 {s : RS} {t : Nat} {K : Int32} : (SQ s t K).a 64 t = K := setA_at
theorem SQ.a {s : RS} {t : Nat} {K : Int32} {k : Nat} (h : k ≠ 64) : (SQ s t K).a k = s.a k := setA_nk h
theorem SK.eq {s : RS} {t : Nat} {K : Int32} : SK s t K = EM (SQ s t K) 1 0 := rfl
theorem e_240 {N : Nat} {s : RS} {t : Nat} {K : Int32} (ht : tpI s = t) (h9 : t < 1000) (hI : INV s) (k2 : ¬ K = 2) (k5 : ¬ K = 5) : f_X12_stat_240 N (SQ s t K) (s.i 63) = some (SK s t K) := by
  unfold f_X12_stat_240
  have cs := (SQ.inv (t := t) (K := K) hI).cd
  rw [if_pos (tp_ib ht h9), tp_nat ht, SQ.a64, if_neg k2, if_neg k5, p_em 1 0 cs.1 cs.2.2]
  rfl
theorem PS.sq {t : Nat} {s u : RS} {K : Int32} (hI : INV s) (h : PS t (SQ s t K) u) : PS t s u := by
  obtain ⟨a1, a2, a3, a4, a5, a6, a7, a8, a9⟩ := h
  exact ⟨a1, a2, (SQ.kp s t K).tr a3 (Nat.le_refl _), a4, a5, a6, a7, a8, fun z => (a9 z).tbs (SQ.tbl s t K).sy (TBL.rf u).tbs rfl (Int.le_refl _) hI.1.f0.2 (fun q => q)⟩
theorem run_stat {N b : Nat} (hN : 1000 ≤ N) (h3 : RUNB N b) (h4 : RUNK N b 4 (fun x => x = 410 ∨ x = 411)) (h5 : RUNN N b) (h6 : RUNK N b 6 (fun x => x = 412 ∨ x = 420 ∨ x = 431)) (h7 : RUNK N b 7 (fun x => x = 421)) (h8 : RUNK N b 8 (fun x => x = 427)) (h9' : RUNK N b 9 (fun x => x = 413)) (h10 : RUNK N b 10 (fun x => x = 415)) (h11 : RUNK N b 11 (fun x => x = 416)) (h12 : RUNK N b 12 (fun x => x = 417)) (h13 : RUNK N b 13 (fun x => x = 422)) (h14 : RUNK N b 14 (fun x => x = 428)) (h15 : RUNK N b 15 (fun x => x = 423)) : RUNS N b := by
  intro n s t P hI hp ht hK hS hb hc hn hF hC
  have hf := hI.1.f0
  have hop := hI.op
  obtain ⟨n', rfl⟩ : ∃ n', n = n' + 1 := ⟨n - 1, by omega⟩
  have push : ((n' + 1 : Nat) : Int) = (n' : Int) + 1 := by omega
  rw [push] at hn hC
  have h9 : t < 998 := by omega
  refine lp_2 ht (by omega) hI.2.2.1 hK ?_
  have ibt := tp_ib ht (show t < 1000 by omega)
  have go : ∀ (K : Int32) (T : Int32 → Prop), ¬ K = 2 → ¬ K = 5 → RUNK N b K T → T (s.i 10) → ok ((if ib (s.i 63) 1000 then f_X12_stat_240 N (RS.setA (RS.setI s 53 ((s.i 53) + 1)) 64 t K) (s.i 63) else none : Option RS).bind fun p => f_X12_parse_10 N n' p) P := fun K T k2 k5 hk hT => by
    have e : f_X12_stat_240 N (RS.setA (RS.setI s 53 ((s.i 53) + 1)) 64 t K) (s.i 63) = some (SK s t K) := e_240 ht (by omega) hI k2 k5
    rw [if_pos ibt, e]
    exact hk n' s t P hI hp ht hS hT hb hc (by omega) hF (fun m u q1 q2 q3 => hC m u q1 q2 (by omega))
  unfold f_X12_stat
  rw [tp_nat ht]
  by_cases c123 : s.i 10 = 123
  · rw [if_pos c123, if_pos ibt]
    show ok (f_X12_parse_10 N n' (SQ s t 3)) P
    exact h3 n' (SQ s t 3) t P (SQ.inv hI) ((hp.prl (by rw [c123]; decide)).tbl (SQ.tbl s t 3)) ht SQ.a64 (by rw [SQ.a (by decide)]; exact hS) hb hc (by show 36000 + 29 ≤ (n' : Int) + 40 * fr s; omega) (fun u hu => hF u (FS'.kp (SQ.kp s t 3) hu)) (fun m u q1 q2 q3 => hC m u (PS.sq hI q1) q2 (by have q3 : (n' : Int) + 40 * fr s + 11 ≤ m + 40 * fr u := q3; omega))
  rw [if_neg c123]
  by_cases c410 : s.i 10 = 410
  · rw [if_pos c410]; exact go 4 _ (by decide) (by decide) h4 (Or.inl c410)
  rw [if_neg c410]
  by_cases c411 : s.i 10 = 411
  · rw [if_pos c411]; exact go 4 _ (by decide) (by decide) h4 (Or.inr c411)
  rw [if_neg c411]
  by_cases c2 : s.i 10 = 2
  · rw [if_pos c2, if_pos ibt]
    have e : f_X12_stat_240 N (RS.setA (RS.setI s 53 ((s.i 53) + 1)) 64 t 5) (s.i 63) = some (SQ s t 5) := by
      show f_X12_stat_240 N (SQ s t 5) (s.i 63) = some (SQ s t 5)
      unfold f_X12_stat_240
      rw [if_pos ibt, tp_nat ht, SQ.a64, if_neg (by decide), if_pos rfl]
    rw [e]
    show ok (f_X12_parse_10 N n' (SQ s t 5)) P
    obtain ⟨n2, rfl⟩ : ∃ n2, n' = n2 + 1 := ⟨n' - 1, by omega⟩
    have push2 : ((n2 + 1 : Nat) : Int) = (n2 : Int) + 1 := by omega
    rw [push2] at hn hC
    exact h5 n2 s (SQ s t 5) t P hI hp ht (SQ.inv hI) (SQ.kp s t 5) (SQ.tbl s t 5) rfl rfl rfl rfl (fun k hk => SQ.a hk) SQ.a64 (by rw [SQ.a (by decide)]; exact hS) c2 ht h9 hb hc (by omega) (by omega) hF (fun m u q1 q2 q3 => hC m u q1 q2 (by omega))
  rw [if_neg c2]
  by_cases c412 : s.i 10 = 412
  · rw [if_pos c412]; exact go 6 _ (by decide) (by decide) h6 (Or.inl c412)
  rw [if_neg c412]
  by_cases c420 : s.i 10 = 420
  · rw [if_pos c420]; exact go 6 _ (by decide) (by decide) h6 (Or.inr (Or.inl c420))
  rw [if_neg c420]
  by_cases c431 : s.i 10 = 431
  · rw [if_pos c431]; exact go 6 _ (by decide) (by decide) h6 (Or.inr (Or.inr c431))
  rw [if_neg c431]
  by_cases c421 : s.i 10 = 421
  · rw [if_pos c421]; exact go 7 _ (by decide) (by decide) h7 c421
  rw [if_neg c421]
  by_cases c427 : s.i 10 = 427
  · rw [if_pos c427]; exact go 8 _ (by decide) (by decide) h8 c427
  rw [if_neg c427]
  by_cases c413 : s.i 10 = 413
  · rw [if_pos c413]; exact go 9 _ (by decide) (by decide) h9' c413
  rw [if_neg c413]
  by_cases c415 : s.i 10 = 415
  · rw [if_pos c415]; exact go 10 _ (by decide) (by decide) h10 c415
  rw [if_neg c415]
  by_cases c416 : s.i 10 = 416
  · rw [if_pos c416]; exact go 11 _ (by decide) (by decide) h11 c416
  rw [if_neg c416]
  by_cases c417 : s.i 10 = 417
  · rw [if_pos c417]; exact go 12 _ (by decide) (by decide) h12 c417
  rw [if_neg c417]
  by_cases c422 : s.i 10 = 422
  · rw [if_pos c422]; exact go 13 _ (by decide) (by decide) h13 c422
  rw [if_neg c422]
  by_cases c428 : s.i 10 = 428
  · rw [if_pos c428]; exact go 14 _ (by decide) (by decide) h14 c428
  rw [if_neg c428]
  by_cases c423 : s.i 10 = 423
  · rw [if_pos c423]; exact go 15 _ (by decide) (by decide) h15 c423
  rw [if_neg c423]
  have e2 : f_X12_stat_240 N (RS.setA (RS.setI s 53 ((s.i 53) + 1)) 64 t 2) (s.i 63) = (if (s.i 10) = 59 then (f_X12_can N (SQ s t 2) 1).bind fun p7 => (if p7.1 = 0 then some p7.2 else f_X12_stat_309 N p7.2) else (if (s.i 10) = 418 then (f_X12_can N (SQ s t 2) 1).bind fun p22 => (if p22.1 = 0 then some p22.2 else f_X12_stat_309 N p22.2) else (if (s.i 10) = 419 then (f_X12_can N (SQ s t 2) 1).bind fun p29 => (if p29.1 = 0 then some p29.2 else f_X12_stat_309 N p29.2) else (f_X12_can N (SQ s t 2) 0).bind fun p26 => (if p26.1 = 0 then some p26.2 else f_X12_stat_309 N p26.2)))) := by
    show f_X12_stat_240 N (SQ s t 2) (s.i 63) = _
    unfold f_X12_stat_240
    rw [if_pos ibt, tp_nat ht, SQ.a64, if_pos rfl]
    rfl
  rw [if_pos ibt, e2]
  clear e2
  have iq := SQ.inv (t := t) (K := 2) hI
  have cs := iq.cd
  have c1 : ¬ s.i 10 = 6 → (((f_X12_can N (SQ s t 2) 1).bind fun p7 => (if p7.1 = 0 then some p7.2 else f_X12_stat_309 N p7.2)) : Option RS) = f_X12_stat_309 N (SQ s t 2) := fun h6 => by
    rw [can1 iq.2.2.1 h6]
    show (if (1 : Int32) = 0 then some (SQ s t 2) else f_X12_stat_309 N (SQ s t 2)) = _
    rw [if_neg (by decide)]
  have hu : SKF s (SK s t 2) t 2 := SK.f 2 hI hS
  have e309 : f_X12_stat_309 N (SQ s t 2) = (if (s.i 10) = 59 then (f_X12_next N (SK s t 2)).bind fun p17 => (f_X12_over N p17 1).bind fun p19 => some p19 else (f_X12_jump N (SK s t 2)).bind fun p13 => (f_X12_over N p13 0).bind fun p15 => some p15) := by
    unfold f_X12_stat_309
    rw [p_em 1 0 cs.1 cs.2.2]
    rfl
  by_cases c59 : s.i 10 = 59
  · rw [if_pos c59, c1 (by rw [c59]; decide), e309, if_pos c59]
    obtain ⟨R, eR, hR, xR⟩ := STA (N := N) (by omega) hI ht (by rw [c59]; decide) hu
    rw [eR]
    clear eR
    have mR := hR.mm
    obtain ⟨r1, r2, r3, r4, r5, r6, r7, r8, r9, r10, r11, r12, r13, r14⟩ := hR
    show ok (((f_X12_over N R 1).bind fun p19 => some p19).bind fun p => f_X12_parse_10 N n' p) P
    refine IF3 (q := R) (x := 1) h9 (Or.inr rfl) (fun u q1 q2 => hC n' u q1 (by omega) (by omega)) r1 r2 r3 r4 mR.snw r6 (by omega) (by omega) (fun _ => ?_)
    exact TS.i0 hI.cd.1 (by show cdI R = _; exact r9) r10 rfl
  rw [if_neg c59]
  have jmp : s.i 10 = 418 ∨ s.i 10 = 419 → ok ((f_X12_stat_309 N (SQ s t 2)).bind fun p => f_X12_parse_10 N n' p) P := fun hT => by
    rw [e309, if_neg c59]
    exact run_jump (by omega) hI hp ht hu hT h9 (by omega) hF (fun W q1 q2 => hC n' W q1 q2 (by omega))
  by_cases c418 : s.i 10 = 418
  · rw [if_pos c418, c1 (by rw [c418]; decide)]; exact jmp (Or.inl c418)
  rw [if_neg c418]
  by_cases c419 : s.i 10 = 419
  · rw [if_pos c419, c1 (by rw [c419]; decide)]; exact jmp (Or.inr c419)
  rw [if_neg c419]
  obtain ⟨G, eG, y1, y2⟩ := can0 (N := N) iq.1 iq.2.2.1
  rw [eG]
  exact lp_f y2 (hF G (FS'.of (SQ.kp s t 2).1.1 y1 y2 iq.r)) (by omega)
/-- all of the reading's frames -/
def ALLR (N b : Nat) : Prop := RUNE N 18 6 5 30 b ∧ RUNE N 17 5 8 27 b ∧ RUNE N 16 4 11 24 b ∧ RUNE N 22 3 14 21 b ∧ RUNE N 21 2 17 18 b ∧ RUNE N 20 1 20 15 b ∧ RUNS N b ∧ RUNL N b ∧ RUNB N b ∧ RUNBW N b
theorem run_step {N b : Nat} (hN : 4000 ≤ N) (ih : 1 ≤ b → ALLR N (b - 1)) : ALLR N b := by
  have hN1 : 1000 ≤ N := by omega
  have i18 : 1 ≤ b → RUNE N 18 6 5 30 (b - 1) := fun q => (ih q).1
  have i16 : 1 ≤ b → RUNE N 16 4 11 24 (b - 1) := fun q => (ih q).2.2.1
  have i22 : 1 ≤ b → RUNE N 22 3 14 21 (b - 1) := fun q => (ih q).2.2.2.1
  have i20 : 1 ≤ b → RUNE N 20 1 20 15 (b - 1) := fun q => (ih q).2.2.2.2.2.1
  have iS : 1 ≤ b → RUNS N (b - 1) := fun q => (ih q).2.2.2.2.2.2.1
  have iL : 1 ≤ b → RUNL N (b - 1) := fun q => (ih q).2.2.2.2.2.2.2.1
  have iB : 1 ≤ b → RUNB N (b - 1) := fun q => (ih q).2.2.2.2.2.2.2.2.1
  have iW : 1 ≤ b → RUNBW N (b - 1) := fun q => (ih q).2.2.2.2.2.2.2.2.2
  have a := run_arms hN1 i16 iL
  have f18 := run_factor hN1 i18 i16 a
  have f17 := run_term hN1 f18
  have f16 := run_expr hN1 f17
  have f22 := run_one hN1 i22 i20 f16
  have f21 := run_ands hN1 f22
  have f20 := run_cond hN1 f21
  have fB := run_block hN1 iL
  have fW := run_blockW hN1 iL
  have fS : RUNS N b := run_stat hN1 fB (run_tell hN1 i16) (run_named hN i16 iS) (run_ending hN1 i16) ((run_throw hN1 i16).k (fun x h => by rw [h]; decide)) ((run_assert hN1 i20 i16).k (fun x h => by rw [h]; decide)) ((run_if hN1 i20 iS).k (fun x h => by rw [h]; decide)) ((run_while hN i20 iS).k (fun x h => by rw [h]; decide)) ((run_do hN i20 iS).k (fun x h => by rw [h]; decide)) ((run_for hN i20 i16 iS).k (fun x h => by rw [h]; decide)) ((run_lock hN1 iB).k (fun x h => by rw [h]; decide)) ((run_groups hN i16 iL).k (fun x h => by rw [h]; decide)) ((run_try hN1 iW).k (fun x h => by rw [h]; decide))
  exact ⟨f18, f17, f16, f22, f21, f20, fS, run_list fS, fB, fW⟩
theorem run_all {N : Nat} (hN : 4000 ≤ N) : ∀ b : Nat, ALLR N b
  | 0 => run_step hN (fun q => absurd q (by omega))
  | b + 1 => run_step hN (fun _ => run_all hN b)
