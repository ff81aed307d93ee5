/-! the law: how it begins -/
/-- the class as it begins -/
def zC0 (fo fc : Nat → Int32) (n : Nat) : CS := some (n, fun k => if k = 13 then 4 else 0, 0, fun k => if k = 9 then upd (fun _ => 0) 0 (-1) else if k = 11 then fo else if k = 12 then fc else fun _ => 0, fun k => if k = 40 then zF 137 else fun _ => 0, fun _ _ => none, none, [], fun _ => 0, fun _ _ => 0, fun _ => 0, fun _ => none, fun _ _ => 0)
theorem nn_none : ∀ n : Nat, nn (fun _ => none) n = n
  | 0 => rfl
  | n + 1 => by
    show nn (fun _ => none) n + (if (none : Option Nat) = none then 1 else 0) = n + 1
    rw [nn_none n, if_pos rfl]
theorem zC0.wd : (∀ k : Nat, k < 25 → 256 ≤ zF 137 k) ∧ 16777216 ≤ zF 137 18 ∧ 16777216 ≤ zF 137 19 := by decide +kernel
theorem zC0.civ (fo fc : Nat → Int32) (n : Nat) : CIV (n + 496) (zC0 fo fc n) := by
  refine ⟨⟨fun x hx => absurd hx List.not_mem_nil, fun i a _ e => (by cases e), fun i j a _ _ e => (by cases e), fun i a _ e => (by cases e), fun i j a _ _ e => (by cases e), fun i a _ e => (by cases e), fun i j a _ _ e => (by cases e), fun i a b _ e => (by cases e), fun b e => (by cases e)⟩, ?_, zC0.wd, fun i a _ e => (by cases e), ⟨Or.inl rfl, by show (4 : Int32).toInt ≤ 12; decide⟩, by show 0 ≤ (0 : Int32).toInt ∧ (0 : Int32).toInt ≤ 900; decide, fun q => absurd rfl q⟩
  show n + nn (fun _ => none) 400 + nn (fun _ => none) 24 + 3 * nn (fun _ => none) 24 = n + 496
  rw [nn_none, nn_none]
theorem zR0.wd : ∀ k : Nat, k < 25 → 256 ≤ zRW k := by decide +kernel
theorem zR0.ri : RI zR0 := by
  refine ⟨⟨by decide, by decide, fun k h1 h2 => ?_, fun r _ => by show (0 : Int32) ≤ 0 ∧ (0 : Int32) ≤ 4; decide, fun r _ => by show (0 : Int32) ≤ 0 ∧ (0 : Int32) ≤ 4; decide⟩, ⟨by decide, fun q => absurd q (by decide), fun t _ => by show 0 ≤ (0 : Int32).toInt ∧ (0 : Int32).toInt ≤ 8; decide, fun t _ => by show (0 : Int32).toInt < (4 : Int32).toInt; decide⟩, zR0.wd, Or.inl rfl, fun q => absurd rfl q⟩
  show 0 ≤ (0 : Int32).toInt ∧ (0 : Int32).toInt < (k : Int)
  rw [z_t0]
  omega
theorem zC0.tld (fo fc : Nat → Int32) (n : Nat) : TLD (zC0 fo fc n) zR0 := by
  refine ⟨rfl, rfl, rfl, rfl, fun k h1 _ => ?_⟩
  show (if k = 0 then (-1 : Int32) else 0) = 0
  exact if_neg (by omega)
theorem zC0.wz : ∀ k : Nat, k < 25 → zF 137 k = zRW k := by decide +kernel
theorem zC0.tlp (fo fc : Nat → Int32) (n : Nat) (hF : ∀ k : Nat, k < 8 → fo k = -1 ∧ fc k = -1) : TLP (zC0 fo fc n) zR0 := by
  refine ⟨⟨zC0.tld fo fc n, fun k hk => ?_, zC0.wz, fun _ _ => rfl⟩, Or.inl ⟨rfl, rfl⟩, fun z => absurd rfl z, fun k hk => ⟨rfl, ?_, ?_⟩, Or.inl ⟨rfl, rfl⟩⟩
  rotate_left
  · show fo k + 1 = 0
    exact (congrArg (fun z => z + 1) (hF k hk).1).trans (by decide)
  · show fc k + 1 = 0
    exact (congrArg (fun z => z + 1) (hF k hk).2).trans (by decide)
  have hk' : (k : Int) < (0 : Int32).toInt := hk
  rw [z_t0] at hk'
  omega
set_option maxRecDepth 20000 in
theorem zC0.of {dC : Nat → ClassId} {dI : Nat → Nat → Nat} {A : Nat → Prop} {H : Heap} {s : State} (h0 : Nat) (qt : Nat) (q10 : Nat) (q0 : Nat) (q7 : Nat) (q3 : Nat) (q9 : Nat) (qy : Nat) (q4 : Nat) (q6 : Nat) (kt : ClassId) (ky : ClassId) (ta : Nat) (tn : Nat) (to : Nat) (tc : Nat) (kta : ClassId) (ktn : ClassId) (kto : ClassId) (ktc : ClassId) (fo : Nat → Int32) (fc : Nat → Int32) (co : Nat) (ca : Nat) (ct : Nat) (cv : Nat) (cw : Nat) (kco : ClassId) (kca : ClassId) (kct : ClassId) (kcv : ClassId) (kcw : ClassId) (nn : Nat) (nc : Nat) (nf : Nat) (knn : ClassId) (knc : ClassId) (knf : ClassId) (qr : Nat) (qj : Nat) (kr : ClassId) (kj : ClassId) (qM0 : Nat) (kM0 : ClassId) (qM1 : Nat) (kM1 : ClassId) (qM2 : Nat) (kM2 : ClassId) (qM3 : Nat) (kM3 : ClassId) (qM4 : Nat) (kM4 : ClassId) (qM5 : Nat) (kM5 : ClassId) (hP : va_P (dC, dI) vwCl [(h0, .inr (10, [.ref qt, .ref q10, .ref q0, .ref q7, .ref q3, .int 0, .int 0, .int 0, .int 0])), (q10, .inr (9, [.ref ta, .ref tn, .ref to, .ref tc, .int 4, .int 0])), (q0, .inr (0, [.ref co, .ref ca, .ref ct, .ref cv, .ref cw, .int 0, .int 0, .int 0, .int 0, .int 0, .int 0, .int 0, .int 0])), (q7, .inr (6, [.ref q9, .ref q0, .ref q10, .ref q4, .int 0, .int 0, .int 0, .ref q6, .int 0, .int 0, .int 0])), (q9, .inr (8, [.ref qt, .ref qy, .int 0, .int 0, .int 0, .int 0, .int 0, .long 0])), (q4, .inr (3, [.ref nn, .ref nc, .ref nf, .int 0])), (q6, .inr (5, [.ref qr, .ref qj, .int 0, .int 0, .int 0, .int 0])), (q3, .inr (2, [.ref q10, .ref q0, .ref qM0, .ref qM1, .ref qM2, .ref qM3, .ref qM4, .ref qM5, .int 0, .int 0, .int 0, .int 0, .int 0, .int 0, .int 0, .int 0, .int 0, .int 0, .int 0, .null])), (qt, .inl (kt, 900, .inl (fun _ => 0))), (ta, .inl (kta, 12, .inl (upd (fun _ => 0) 0 (-1)))), (tn, .inl (ktn, 8, .inl (fun _ => 0))), (to, .inl (kto, 8, .inl fo)), (tc, .inl (ktc, 8, .inl fc)), (co, .inl (kco, 1200, .inl (fun _ => 0))), (ca, .inl (kca, 1200, .inl (fun _ => 0))), (ct, .inl (kct, 1024, .inl (fun _ => 0))), (cv, .inl (kcv, 320, .inl (fun _ => 0))), (cw, .inl (kcw, 320, .inl (fun _ => 0))), (qy, .inl (ky, 25, .inr (.inl (zF 137)))), (nn, .inl (knn, 128, .inr (.inl (fun _ => 0)))), (nc, .inl (knc, 128, .inl (fun _ => 0))), (nf, .inl (knf, 128, .inl (fun _ => 0))), (qr, .inl (kr, 400, .inr (.inr (.inr (.inr (fun _ => none)))))), (qj, .inl (kj, 160, .inl (fun _ => 0))), (qM0, .inl (kM0, 720, .inl (fun _ => 0))), (qM1, .inl (kM1, 600, .inl (fun _ => 0))), (qM2, .inl (kM2, 24, .inr (.inr (.inr (.inr (fun _ => none)))))), (qM3, .inl (kM3, 24, .inr (.inr (.inr (.inr (fun _ => none)))))), (qM4, .inl (kM4, 320, .inl (fun _ => 0))), (qM5, .inl (kM5, 400, .inl (fun _ => 0)))] H) (hD : va_D A [(h0, .inr (10, [.ref qt, .ref q10, .ref q0, .ref q7, .ref q3, .int 0, .int 0, .int 0, .int 0])), (q10, .inr (9, [.ref ta, .ref tn, .ref to, .ref tc, .int 4, .int 0])), (q0, .inr (0, [.ref co, .ref ca, .ref ct, .ref cv, .ref cw, .int 0, .int 0, .int 0, .int 0, .int 0, .int 0, .int 0, .int 0])), (q7, .inr (6, [.ref q9, .ref q0, .ref q10, .ref q4, .int 0, .int 0, .int 0, .ref q6, .int 0, .int 0, .int 0])), (q9, .inr (8, [.ref qt, .ref qy, .int 0, .int 0, .int 0, .int 0, .int 0, .long 0])), (q4, .inr (3, [.ref nn, .ref nc, .ref nf, .int 0])), (q6, .inr (5, [.ref qr, .ref qj, .int 0, .int 0, .int 0, .int 0])), (q3, .inr (2, [.ref q10, .ref q0, .ref qM0, .ref qM1, .ref qM2, .ref qM3, .ref qM4, .ref qM5, .int 0, .int 0, .int 0, .int 0, .int 0, .int 0, .int 0, .int 0, .int 0, .int 0, .int 0, .null])), (qt, .inl (kt, 900, .inl (fun _ => 0))), (ta, .inl (kta, 12, .inl (upd (fun _ => 0) 0 (-1)))), (tn, .inl (ktn, 8, .inl (fun _ => 0))), (to, .inl (kto, 8, .inl fo)), (tc, .inl (ktc, 8, .inl fc)), (co, .inl (kco, 1200, .inl (fun _ => 0))), (ca, .inl (kca, 1200, .inl (fun _ => 0))), (ct, .inl (kct, 1024, .inl (fun _ => 0))), (cv, .inl (kcv, 320, .inl (fun _ => 0))), (cw, .inl (kcw, 320, .inl (fun _ => 0))), (qy, .inl (ky, 25, .inr (.inl (zF 137)))), (nn, .inl (knn, 128, .inr (.inl (fun _ => 0)))), (nc, .inl (knc, 128, .inl (fun _ => 0))), (nf, .inl (knf, 128, .inl (fun _ => 0))), (qr, .inl (kr, 400, .inr (.inr (.inr (.inr (fun _ => none)))))), (qj, .inl (kj, 160, .inl (fun _ => 0))), (qM0, .inl (kM0, 720, .inl (fun _ => 0))), (qM1, .inl (kM1, 600, .inl (fun _ => 0))), (qM2, .inl (kM2, 24, .inr (.inr (.inr (.inr (fun _ => none)))))), (qM3, .inl (kM3, 24, .inr (.inr (.inr (.inr (fun _ => none)))))), (qM4, .inl (kM4, 320, .inl (fun _ => 0))), (qM5, .inl (kM5, 400, .inl (fun _ => 0)))]) (hK : va_K (dC, dI) vwCl [(kt, .int), (kta, .int), (ktn, .int), (kto, .int), (ktc, .int), (kco, .int), (kca, .int), (kct, .int), (kcv, .int), (kcw, .int), (ky, .long), (knn, .long), (knc, .int), (knf, .int), (kr, .object "StatementRules2$Open"), (kj, .int), (kM0, .int), (kM1, .int), (kM2, .object "StatementRules2$Frame"), (kM3, .object "StatementRules2$Thrown"), (kM4, .int), (kM5, .int)] s) (n : Nat) : ∃ Q : CQ, Q.o 0 = h0 ∧ va_P (dC, dI) vwCl (cW Q (zC0 fo fc n)) H ∧ va_D A (cW Q (zC0 fo fc n)) ∧ va_K (dC, dI) vwCl (cT Q) s := by
  obtain rfl : kt = kta := kuq2 hK 0 1 rfl rfl
  obtain rfl : kt = ktn := kuq2 hK 0 2 rfl rfl
  obtain rfl : kt = kto := kuq2 hK 0 3 rfl rfl
  obtain rfl : kt = ktc := kuq2 hK 0 4 rfl rfl
  obtain rfl : kt = kco := kuq2 hK 0 5 rfl rfl
  obtain rfl : kt = kca := kuq2 hK 0 6 rfl rfl
  obtain rfl : kt = kct := kuq2 hK 0 7 rfl rfl
  obtain rfl : kt = kcv := kuq2 hK 0 8 rfl rfl
  obtain rfl : kt = kcw := kuq2 hK 0 9 rfl rfl
  obtain rfl : ky = knn := kuq2 hK 10 11 rfl rfl
  obtain rfl : kt = knc := kuq2 hK 0 12 rfl rfl
  obtain rfl : kt = knf := kuq2 hK 0 13 rfl rfl
  obtain rfl : kt = kj := kuq2 hK 0 15 rfl rfl
  obtain rfl : kt = kM0 := kuq2 hK 0 16 rfl rfl
  obtain rfl : kt = kM1 := kuq2 hK 0 17 rfl rfl
  obtain rfl : kt = kM4 := kuq2 hK 0 20 rfl rfl
  obtain rfl : kt = kM5 := kuq2 hK 0 21 rfl rfl
  exact ⟨((fun k => if k = 0 then h0 else if k = 1 then q10 else if k = 2 then q0 else if k = 3 then q7 else if k = 4 then q9 else if k = 5 then q4 else if k = 6 then q6 else if k = 7 then q3 else 0), (fun k => if k = 0 then qt else if k = 9 then ta else if k = 10 then tn else if k = 11 then to else if k = 12 then tc else if k = 15 then co else if k = 16 then ca else if k = 17 then ct else if k = 18 then cv else if k = 19 then cw else if k = 40 then qy else if k = 47 then nn else if k = 48 then nc else if k = 49 then nf else if k = 51 then qr else if k = 52 then qj else if k = 59 then qM0 else if k = 60 then qM1 else if k = 61 then qM2 else if k = 62 then qM3 else if k = 63 then qM4 else if k = 64 then qM5 else 0), (fun k => if k = 0 then kt else if k = 1 then ky else if k = 2 then kr else if k = 3 then kM2 else kM3)), rfl, hP, hD, hK.sub [0, 10, 14, 18, 19] rfl⟩
theorem df_X11 : ∀ j, j < 9 → defaultValue (tyX11 j) = vp_V [.null, .null, .null, .null, .null, .int 0, .int 0, .int 0, .int 0] j := by decide +kernel
set_option maxRecDepth 20000 in
theorem k_L_law_classLink_RL_8_RX11 : Cond.classLink RL 8 RX11 ∈ lw_tbl := List.mem_of_getElem? (i := 183) (by decide +kernel)
set_option maxRecDepth 20000 in
theorem k_L_law_initialized_RX11 : Cond.initialized RX11 ∈ lw_tbl := List.mem_of_getElem? (i := 161) (by decide +kernel)
set_option maxRecDepth 20000 in
theorem k_L_law_methodLink_RL_15_yX11_init : Cond.methodLink RL 15 yX11_init ∈ lw_tbl := List.mem_of_getElem? (i := 185) (by decide +kernel)
set_option maxRecDepth 20000 in
theorem k_L_law_instanceMethod_yX11_init : Cond.instanceMethod yX11_init ∈ lw_tbl := List.mem_of_getElem? (i := 186) (by decide +kernel)
theorem df_X12 : ∀ j, j < 116 → defaultValue (tyX12 j) = vp_V [.int 0, .null, .int 0, .int 0, .null, .null, .null, .null, .int 0, .null, .int 0, .int 0, .int 0, .long 0, .int 0, .int 0, .int 0, .int 0, .int 0, .int 0, .int 0, .null, .null, .null, .int 0, .null, .null, .null, .null, .int 0, .null, .null, .null, .int 0, .null, .null, .null, .null, .int 0, .null, .null, .null, .int 0, .int 0, .null, .null, .null, .null, .null, .null, .null, .null, .int 0, .int 0, .int 0, .int 0, .int 0, .null, .null, .int 0, .null, .null, .null, .int 0, .null, .null, .null, .null, .null, .null, .null, .null, .null, .null, .null, .int 0, .int 0, .int 0, .int 0, .int 0, .int 0, .int 0, .null, .null, .null, .int 0, .null, .null, .null, .null, .null, .null, .int 0, .int 0, .null, .int 0, .null, .int 0, .null, .int 0, .null, .null, .null, .null, .null, .null, .null, .null, .null, .null, .int 0, .int 0, .int 0, .int 0, .int 0, .int 0] j := by decide +kernel
set_option maxRecDepth 20000 in
theorem k_L_law_classLink_RL_16_RX12 : Cond.classLink RL 16 RX12 ∈ lw_tbl := List.mem_of_getElem? (i := 1504) (by decide +kernel)
set_option maxRecDepth 20000 in
theorem k_L_law_initialized_RX12 : Cond.initialized RX12 ∈ lw_tbl := List.mem_of_getElem? (i := 174) (by decide +kernel)
set_option maxRecDepth 20000 in
theorem k_L_law_methodLink_RL_18_yX12_init : Cond.methodLink RL 18 yX12_init ∈ lw_tbl := List.mem_of_getElem? (i := 1506) (by decide +kernel)
set_option maxRecDepth 20000 in
theorem k_L_law_instanceMethod_yX12_init : Cond.instanceMethod yX12_init ∈ lw_tbl := List.mem_of_getElem? (i := 1507) (by decide +kernel)
set_option maxRecDepth 20000 in
theorem k_L_law_arrayClass_long : Cond.arrayClass .long ∈ lw_tbl := List.mem_of_getElem? (i := 371) (by decide +kernel)
set_option maxHeartbeats 4000000 in
set_option maxRecDepth 100000 in
theorem whole_start {p : Program} {e : Env} {s : State} {m : MethodId} {below : List Frame} {meth : Method} {c : Code} (l : Launch) (hl9 : l.stackTraces = false) {b L : Nat} {xs : Nat → Int32} (hL : L ≤ 3072) (C0 : lw_At p s m meth c b L xs) : W p l e room_1 s m #[Value.ref b] below meth c s.heap [] 0 0 (lw_Z below #[Value.ref b] s) (entryFrame m ([Value.ref b] : List Value).toArray 7) := by
  obtain ⟨A, hA, hAr⟩ : ∃ A : Nat → Prop, (∀ q : Nat, s.heap.size ≤ q → A q) ∧ (∀ q : Nat, A q → s.heap.size ≤ q) := ⟨fun q => s.heap.size ≤ q, fun _ h => h, fun _ h => h⟩
  obtain ⟨hx, hb, hr, hml, hown, hts, hSc, hbl, hlocks, hgv⟩ := id C0
  have hown : s.vm.findClass RL = some m.cls := hown
  have hbA : ¬ A b := fun h => absurd (hAr b h) (Nat.not_le.mpr hbl)
  have hAo : ∀ a : Nat, a < s.heap.size → ¬ A a := fun a h g => absurd (hAr a g) (Nat.not_le.mpr h)
  have hZ : zAMB s := z_amb hts
  have hT : zTHR A s s.heap := z_thr hts hgv hAo
  obtain ⟨aS, aV, hX⟩ := z_str (A := A) hts hgv hAo
  obtain ⟨dC, dI, hK⟩ := z_cls hts
  have hS : va_S A s.heap s.heap [] := va_S.rf
  have hP : va_P (dC, dI) vwCl [] s.heap := fun k q h => by simp at h
  have hD : va_D A [] := ⟨fun i j p q h => by simp at h, fun k q h => by simp at h⟩
  have hl := lv_entry ([.ref b]) (n := 7) (Nat.le_of_ble_eq_true rfl)
  rw [lg_entry_eq]
  generalize (lg_sl ([.ref b]) ++ List.replicate (7 - (lg_sl ([.ref b])).length) Slot.unset).toArray = ls at hl ⊢
  have hl : lv_has ls 7 [(0, .ref b)] := hl
  refine va_new (ci := 10) (fs := [.null, .null, .null, .null, .null, .int 0, .int 0, .int 0, .int 0]) (C := RX11) (T := TX11) (N := 9) hx hb hts i_L_law_X11 tyX11 tyX11_ok hown (hts (.classLink RL 8 RX11) k_L_law_classLink_RL_8_RX11) (hts (.instantiable RX11 9) k_L_law_instantiable_RX11_9) (hts (.initialized RX11) k_L_law_initialized_RX11) hK hP hD hS hA rfl df_X11 (Nat.le_of_ble_eq_true rfl) (Nat.le_of_ble_eq_true rfl) dL_law_0 (fun q1 H hP hD hS => ?_)
  refine W.widen (k := 1) (n := 9) (by omega) (by omega) ?_
  have hP : va_P (dC, dI) vwCl [(q1, .inr (10, [.null, .null, .null, .null, .null, .int 0, .int 0, .int 0, .int 0]))] H := hP
  have hD : va_D A [(q1, .inr (10, [.null, .null, .null, .null, .null, .int 0, .int 0, .int 0, .int 0]))] := hD
  refine lv_dup hx hb dL_law_3 rfl ?_
  have hPc := hP.sub (ws' := [(q1, .inr (10, [.null, .null, .null, .null, .null, .int 0, .int 0, .int 0, .int 0]))]) [0] rfl
  have hDc := hD.sub (ws' := [(q1, .inr (10, [.null, .null, .null, .null, .null, .int 0, .int 0, .int 0, .int 0]))]) [0] (by decide) rfl
  have hKc := hK.sub (tys' := []) [] rfl
  have hFc := va_free (wc := [(q1, .inr (10, [.null, .null, .null, .null, .null, .int 0, .int 0, .int 0, .int 0]))]) hD hS hA [0] rfl
  have hts2 := lw_hts2 hts
  refine va_callv (va_runI (As := []) (rest := [.ref q1]) ⟨hx, hb, hml, hown, hts2⟩ (c_X11_init9 l dC dI _ q1 aS aV) (cwI 0 hts2 hL_law_X11_init_i15 rfl rfl rfl (hts (.initialized RX11) k_L_law_initialized_RX11) (hts (.methodLink RL 15 yX11_init) k_L_law_methodLink_RL_15_yX11_init) (hts (.instanceMethod yX11_init) k_L_law_instanceMethod_yX11_init) rfl (by decide +kernel) ⟨Nat.le_of_ble_eq_true rfl, Nat.le_of_ble_eq_true rfl⟩) ⟨zPreS.blind, zPreS.go hX hS hFc hZ hPc hKc hDc⟩ rfl rfl hl.1 rfl (lv_room (Nat.le_of_ble_eq_true rfl)) dL_law_4 ⟨Nat.le_of_ble_eq_true rfl, Nat.le_of_ble_eq_true rfl⟩) hS (fun q _ h => hFc q h) hFc (fun u9 t9 H1 locs ht hvm hw hB hz1 hk1 hS => ?_)
  obtain ⟨qt, q10, q0, q7, q3, q9, qy, q4, q6, kt, ky, ta, tn, to, tc, kta, ktn, kto, ktc, fo, fc, co, ca, ct, cv, cw, kco, kca, kct, kcv, kcw, nn, nc, nf, knn, knc, knf, qr, qj, kr, kj, qM0, kM0, qM1, kM1, qM2, kM2, qM3, kM3, qM4, kM4, qM5, kM5, hF9, hP1, hK1, hD1⟩ := hB
  rw [ht] at hP1
  have hK1 := va_K.moved hvm.symm hK1
  obtain ⟨Q, hQ0, hP1, hD1, hK1⟩ := zC0.of q1 qt q10 q0 q7 q3 q9 qy q4 q6 kt ky ta tn to tc kta ktn kto ktc fo fc co ca ct cv cw kco kca kct kcv kcw nn nc nf knn knc knf qr qj kr kj qM0 kM0 qM1 kM1 qM2 kM2 qM3 kM3 qM4 kM4 qM5 kM5 hP1 hD1 hK1 0
  have hK := hK1
  clear hK1
  have hP := hP1
  have hD : va_D A (cW Q (zC0 fo fc 0)) := hD1.weaken (fun _ _ _ h => hFc _ h)
  clear hP1 hD1 hk1 hz1 hFc hPc hDc hKc
  rw [← hQ0]
  clear hQ0
  generalize H1 = H at hP hS ⊢
  refine W.widen (k := 30) (n := 8134) (by omega) (by omega) ?_
  refine lv_astore_n (lv' := [(1, .ref (Q.o 0)), (0, .ref b)]) hx hb dL_law_7 rfl hl (by decide) rfl (fun ls hl => ?_)
  refine va_new (ci := 11) (fs := [.int 0, .null, .int 0, .int 0, .null, .null, .null, .null, .int 0, .null, .int 0, .int 0, .int 0, .long 0, .int 0, .int 0, .int 0, .int 0, .int 0, .int 0, .int 0, .null, .null, .null, .int 0, .null, .null, .null, .null, .int 0, .null, .null, .null, .int 0, .null, .null, .null, .null, .int 0, .null, .null, .null, .int 0, .int 0, .null, .null, .null, .null, .null, .null, .null, .null, .int 0, .int 0, .int 0, .int 0, .int 0, .null, .null, .int 0, .null, .null, .null, .int 0, .null, .null, .null, .null, .null, .null, .null, .null, .null, .null, .null, .int 0, .int 0, .int 0, .int 0, .int 0, .int 0, .int 0, .null, .null, .null, .int 0, .null, .null, .null, .null, .null, .null, .int 0, .int 0, .null, .int 0, .null, .int 0, .null, .int 0, .null, .null, .null, .null, .null, .null, .null, .null, .null, .null, .int 0, .int 0, .int 0, .int 0, .int 0, .int 0]) (C := RX12) (T := TX12) (N := 116) hx hb hts i_L_law_X12 tyX12 tyX12_ok hown (hts (.classLink RL 16 RX12) k_L_law_classLink_RL_16_RX12) (hts (.instantiable RX12 116) k_L_law_instantiable_RX12_116) (hts (.initialized RX12) k_L_law_initialized_RX12) hK hP hD hS hA rfl df_X12 (Nat.le_of_ble_eq_true rfl) (Nat.le_of_ble_eq_true rfl) dL_law_8 (fun qy H2 hP hD hS => ?_)
  refine W.widen (k := 31) (n := 8250) (by omega) (by omega) ?_
  refine lv_dup hx hb dL_law_11 rfl ?_
  have hP := hP.pm List.perm_append_comm
  have hD := hD.pm List.perm_append_comm
  have hPc : va_P (dC, dI) vwCl [(qy, .inr (11, [.int 0, .null, .int 0, .int 0, .null, .null, .null, .null, .int 0, .null, .int 0, .int 0, .int 0, .long 0, .int 0, .int 0, .int 0, .int 0, .int 0, .int 0, .int 0, .null, .null, .null, .int 0, .null, .null, .null, .null, .int 0, .null, .null, .null, .int 0, .null, .null, .null, .null, .int 0, .null, .null, .null, .int 0, .int 0, .null, .null, .null, .null, .null, .null, .null, .null, .int 0, .int 0, .int 0, .int 0, .int 0, .null, .null, .int 0, .null, .null, .null, .int 0, .null, .null, .null, .null, .null, .null, .null, .null, .null, .null, .null, .int 0, .int 0, .int 0, .int 0, .int 0, .int 0, .int 0, .null, .null, .null, .int 0, .null, .null, .null, .null, .null, .null, .int 0, .int 0, .null, .int 0, .null, .int 0, .null, .int 0, .null, .null, .null, .null, .null, .null, .null, .null, .null, .null, .int 0, .int 0, .int 0, .int 0, .int 0, .int 0]))] H2 := hP.mm (fun _ hq => List.mem_append_left _ hq)
  have hDc : va_D A [(qy, .inr (11, [.int 0, .null, .int 0, .int 0, .null, .null, .null, .null, .int 0, .null, .int 0, .int 0, .int 0, .long 0, .int 0, .int 0, .int 0, .int 0, .int 0, .int 0, .int 0, .null, .null, .null, .int 0, .null, .null, .null, .null, .int 0, .null, .null, .null, .int 0, .null, .null, .null, .null, .int 0, .null, .null, .null, .int 0, .int 0, .null, .null, .null, .null, .null, .null, .null, .null, .int 0, .int 0, .int 0, .int 0, .int 0, .null, .null, .int 0, .null, .null, .null, .int 0, .null, .null, .null, .null, .null, .null, .null, .null, .null, .null, .null, .int 0, .int 0, .int 0, .int 0, .int 0, .int 0, .int 0, .null, .null, .null, .int 0, .null, .null, .null, .null, .null, .null, .int 0, .int 0, .null, .int 0, .null, .int 0, .null, .int 0, .null, .null, .null, .null, .null, .null, .null, .null, .null, .null, .int 0, .int 0, .int 0, .int 0, .int 0, .int 0]))] := hD.left
  have hKc := hK.sub (tys' := []) [] rfl
  have hFc : ∀ q, va_A [(qy, .inr (11, [.int 0, .null, .int 0, .int 0, .null, .null, .null, .null, .int 0, .null, .int 0, .int 0, .int 0, .long 0, .int 0, .int 0, .int 0, .int 0, .int 0, .int 0, .int 0, .null, .null, .null, .int 0, .null, .null, .null, .null, .int 0, .null, .null, .null, .int 0, .null, .null, .null, .null, .int 0, .null, .null, .null, .int 0, .int 0, .null, .null, .null, .null, .null, .null, .null, .null, .int 0, .int 0, .int 0, .int 0, .int 0, .null, .null, .int 0, .null, .null, .null, .int 0, .null, .null, .null, .null, .null, .null, .null, .null, .null, .null, .null, .int 0, .int 0, .int 0, .int 0, .int 0, .int 0, .int 0, .null, .null, .null, .int 0, .null, .null, .null, .null, .null, .null, .int 0, .int 0, .null, .int 0, .null, .int 0, .null, .int 0, .null, .null, .null, .null, .null, .null, .null, .null, .null, .null, .int 0, .int 0, .int 0, .int 0, .int 0, .int 0]))] H2.size q → A q := fun q hq => by
    rcases hq.mem with ⟨e9, he⟩ | he
    · exact hDc.nd.2 _ he
    · exact hA q (Nat.le_trans hS.1 he)
  refine va_callv (va_runI (As := []) (rest := [.ref qy]) ⟨hx, hb, hml, hown, hts2⟩ (c_X12_init l dC dI _ qy) (cwI 0 hts2 hL_law_X12_init_i18 rfl rfl rfl (hts (.initialized RX12) k_L_law_initialized_RX12) (hts (.methodLink RL 18 yX12_init) k_L_law_methodLink_RL_18_yX12_init) (hts (.instanceMethod yX12_init) k_L_law_instanceMethod_yX12_init) rfl (by decide +kernel) ⟨Nat.le_of_ble_eq_true rfl, Nat.le_of_ble_eq_true rfl⟩) ⟨zPre.blind, zPre.go hZ hPc hKc hDc⟩ rfl rfl hl.1 rfl (lv_room (Nat.le_of_ble_eq_true rfl)) dL_law_12 ⟨Nat.le_of_ble_eq_true rfl, Nat.le_of_ble_eq_true rfl⟩) hS (fun q _ h => hFc q h) hFc (fun u9 t9 H1 locs ht hvm hw hB hz1 hk1 hS => ?_)
  obtain ⟨P, hP0, hP1, hK1, hD1⟩ := hB
  rw [ht] at hP1
  have hK1 := va_K.moved hvm.symm hK1
  obtain ⟨hP, hD⟩ := vj hP hD hk1 hFc hP1 hD1
  have hK := hK.app hK1
  clear hk1 hFc hPc hDc hKc hP1 hD1 hK1
  rw [← hP0]
  clear hP0
  refine W.widen (k := 100) (n := 106439) (by omega) (by omega) ?_
  refine lv_astore_n (lv' := [(2, .ref P.h0), (1, .ref (Q.o 0)), (0, .ref b)]) hx hb dL_law_15 rfl hl (by decide) rfl (fun ls hl => ?_)
  refine lv_iconst (v := 1) hx hb dL_law_16 (by decide) ?_
  refine va_newa (atype := .long) (ty := .long) (N' := 1) (a0 := (1, .inr (.inl (fun _ => 0)))) hx hb (hts (.arrayClass .long) k_L_law_arrayClass_long) rfl hK hP hD hS hA (z_newl 1) (by decide) (by decide) (by decide) (Nat.le_of_ble_eq_true rfl) (Nat.le_of_ble_eq_true rfl) dL_law_17 (fun qO kO H3 hK hP hD hS3 => ?_)
  refine W.widen (k := 101) (n := 106440) (by omega) (by omega) ?_
  refine lv_astore_n (lv' := [(3, .ref qO), (2, .ref P.h0), (1, .ref (Q.o 0)), (0, .ref b)]) hx hb dL_law_19 rfl hl (by decide) rfl (fun ls hl => ?_)
  refine lv_iconst (v := 0) hx hb dL_law_20 (by decide) ?_
  refine lv_istore (lv' := [(4, .int 0), (3, .ref qO), (2, .ref P.h0), (1, .ref (Q.o 0)), (0, .ref b)]) hx hb dL_law_21 hl (by decide) rfl (fun ls hl => ?_)
  have pm : ((rW P zR0 ++ cW Q (zC0 fo fc 0)) ++ wOut qO kO (fun _ => 0)).Perm (cW Q (zC0 fo fc H3.size) ++ (rW P zR0 ++ wOut qO kO (fun _ => 0))) := by
    show ((rW P zR0 ++ cW Q (zC0 fo fc H3.size)) ++ wOut qO kO (fun _ => 0)).Perm (cW Q (zC0 fo fc H3.size) ++ (rW P zR0 ++ wOut qO kO (fun _ => 0)))
    rw [← List.append_assoc]
    exact List.Perm.append_right _ List.perm_append_comm
  have hLw : LPW dC dI Q P qO kO A s.heap (zC0 fo fc H3.size) zR0 (fun _ => 0) H3 locs := ⟨hP.pm pm, hD.pm pm, hS3, rfl⟩
  have hKL : va_K (dC, dI) vwCl (cT Q ++ (rT P ++ [(kO, .long)])) s := by
    rw [← List.append_assoc]
    exact hK
  refine L_loop l C0 hL hA hAr dC dI hZ hT hl9 hKL 512 0 0 101 106440 H3 locs ls nI_0.symm (by omega) (by omega) (lv_sub hl [4, 3, 2, 1, 0] rfl) ⟨_, _, _, _, zC0.civ fo fc H3.size, zR0.ri, hLw, ?_, zC0.tlp fo fc H3.size hF9⟩
  unfold BUD
  show 101 + (H3.size + 496 - H3.size) + 512 ≤ 500000 ∧ 106440 + 17 * (H3.size + 496 - H3.size) + 6 * 512 ≤ 7000000
  omega
