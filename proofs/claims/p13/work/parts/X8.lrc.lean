set_option maxHeartbeats 4000000 in
set_option maxRecDepth 100000 in
theorem L_c13_b1 {p : Program} {e : Env} {s : State} {m : MethodId} {below : List Frame} {meth : Method} {c : Code} (l : Launch) {b L : Nat} {xs : Nat → Int32} {A : Nat → Prop} (C0 : lw_At p s m meth c b L xs) (hL9 : L < 2 ^ 31) (hA : ∀ q : Nat, s.heap.size ≤ q → A q) (hAr : ∀ q : Nat, A q → s.heap.size ≤ q) (dC : Nat → ClassId) (dI : Nat → Nat → Nat) (hZ : zAMB s) {Q : CQ} {P : RQ} {qO : Nat} {kO : ClassId} (hK : va_K (dC, dI) vwCl (cT Q ++ (rT P ++ [(kO, .long)])) s) {H : Heap} {locs : List Loc} {ls : Array Slot} {cells slots i rest : Nat} {xi : Int32} (hxi : xi = nI i) (hi : i + 6 ≤ L) (hl : lv_has ls 7 [(0, .ref b), (1, .ref (Q.o 0)), (2, .ref P.h0), (3, .ref qO), (4, .int xi)]) (hT : zTHR A s s.heap) (hl9 : l.stackTraces = false) (hX : LST dC dI Q P qO kO A s.heap (rest + 1) cells slots H locs) {Z : State → Prop} {v1 v2 : Int32} (ev1 : v1 = xs (xi + 1).toNatClampNeg) (ev2 : v2 = xs (xi + 2).toNatClampNeg) (h1 : v1 < 0) (kk : ∀ (cells slots : Nat) (H : Heap) (locs : List Loc) (ls : Array Slot), lv_has ls 7 [(0, .ref b), (1, .ref (Q.o 0)), (2, .ref P.h0), (3, .ref qO), (4, .int xi)] → LST dC dI Q P qO kO A s.heap rest cells slots H locs → W p l e room_1 s m #[Value.ref b] below meth c H locs cells slots Z (F0 m 601 ls [])) : W p l e room_1 s m #[Value.ref b] below meth c H locs cells slots Z (F0 m 561 ls []) := by
  obtain ⟨hx, hb, hr9, hml, hown, hts, hSc, hbl, hlocks, hgv⟩ := id C0
  have hown : s.vm.findClass RL = some m.cls := hown
  have hbA : ¬ A b := fun h => absurd (hAr b h) (Nat.not_le.mpr hbl)
  have hts2 := lw_hts2 hts
  have hKr := hK.sub (tys' := rT P) [5, 6, 7] rfl
  have hKo := hK.sub (tys' := [(kO, .long)]) [8] rfl
  obtain ⟨σ, ρ, fo, h, hc, hr, hL, hB, ht⟩ := hX
  refine lv_aload_n hx hb dL_law_561 rfl (lv_at hl 1 rfl) ?_
  refine lv_aload_n hx hb dL_law_562 rfl (lv_at hl 0 rfl) ?_
  refine lv_iload hx hb dL_law_563 (lv_at hl 4 rfl) ?_
  refine lv_iconst (v := 1) hx hb dL_law_565 (by decide) ?_
  refine lv_iadd hx hb dL_law_566 ?_
  refine lv_topi (fun z1 ez1 => ?_)
  refine va_sld hx hb hSc hbl hbA hL.2.2.1 (i := z1) (z_in (k := 1) hxi rfl hi (by decide) hL9 ez1) dL_law_567 ?_
  rw [ez1, ← ev1]
  refine lv_aload_n hx hb dL_law_568 rfl (lv_at hl 0 rfl) ?_
  refine lv_iload hx hb dL_law_569 (lv_at hl 4 rfl) ?_
  refine lv_iconst (v := 2) hx hb dL_law_571 (by decide) ?_
  refine lv_iadd hx hb dL_law_572 ?_
  refine lv_topi (fun z2 ez2 => ?_)
  refine va_sld hx hb hSc hbl hbA hL.2.2.1 (i := z2) (z_in (k := 2) hxi rfl hi (by decide) hL9 ez2) dL_law_573 ?_
  rw [ez2, ← ev2]
  refine lv_aload_n hx hb dL_law_574 rfl (lv_at hl 3 rfl) ?_
  obtain ⟨hPc, hDc, hFc⟩ := hL.o hA
  refine lx_o (r0 := 0) (fo' := (vp_updL fo 0 (-1))) hL hA (vx_runSW (As := [.ref (Q.o 0), .int v1, .int v2, .ref qO]) (rest := []) ⟨hx, hb, hml, hown, hts2⟩ (c_L_rounds_b1 l dC dI _ (Q.o 0) v1 v2 qO kO fo (.ref (Q.q 0)) (.ref (Q.o 1)) (.ref (Q.o 2)) (.ref (Q.o 3)) (.ref (Q.o 7)) (.int (σ.i 5)) (.int (σ.i 6)) (.int (σ.i 7)) (.int (σ.i 8)) h1) (vx_cwSW 4 hts2 hL_law_L_rounds_s76 rfl rfl rfl (by decide +kernel) ⟨Nat.le_of_ble_eq_true rfl, Nat.le_of_ble_eq_true rfl⟩) ⟨zPre.blind, zPre.go hZ hPc hKo hDc⟩ rfl rfl hl.1 rfl (lv_room (Nat.le_of_ble_eq_true rfl)) dL_law_575 hB.ok0) (fun n9 H locs hn9 hL => ?_)
  have hB := hB.wk.hs hn9
  have hc := hc.hs hn9
  have ht := ht.hs n9
  generalize CS.setHs σ n9 = σ at hc hL hB ht
  refine lv_istore (lv' := [(5, .int 0), (0, .ref b), (1, .ref (Q.o 0)), (2, .ref P.h0), (3, .ref qO), (4, .int xi)]) hx hb dL_law_578 hl (by decide) rfl (fun ls hl => ?_)
  refine lv_aload_n hx hb dL_law_580 rfl (lv_at hl 3 rfl) ?_
  refine lv_aload_n hx hb dL_law_581 rfl (lv_at hl 1 rfl) ?_
  refine lv_iload hx hb dL_law_582 (lv_at hl 5 rfl) ?_
  refine lv_iconst (v := 1) hx hb dL_law_584 (by decide) ?_
  refine lv_iadd hx hb dL_law_585 ?_
  refine lv_topi (fun z3 ez3 => ?_)
  refine va_sld hx hb hSc hbl hbA hL.2.2.1 (i := z3) (z_in (k := 1) hxi rfl hi (by decide) hL9 ez3) dL_law_586 ?_
  rw [ez3, ← ev1]
  refine lv_aload_n hx hb dL_law_587 rfl (lv_at hl 1 rfl) ?_
  refine lv_iload hx hb dL_law_588 (lv_at hl 5 rfl) ?_
  refine lv_iconst (v := 2) hx hb dL_law_590 (by decide) ?_
  refine lv_iadd hx hb dL_law_591 ?_
  refine lv_topi (fun z4 ez4 => ?_)
  refine va_sld hx hb hSc hbl hbA hL.2.2.1 (i := z4) (z_in (k := 2) hxi rfl hi (by decide) hL9 ez4) dL_law_592 ?_
  rw [ez4, ← ev2]
  obtain ⟨U, hf, hr2, u1, u2, u3⟩ := q_rnd hr v1 v2
  have ht := u_rounds ht v1 v2 hf
  refine lx_m hL hA (va_runV (As := [.int v1, .int v2]) (rest := []) ⟨hx, hb, hml, hown, hts2⟩ (c_X12_rounds l dC dI H.size P 10000000000 ρ v1 v2 U hf) (cwV 2 hts2 hL_law_X12_rounds_v81 rfl rfl rfl (by decide +kernel) ⟨Nat.le_of_ble_eq_true rfl, Nat.le_of_ble_eq_true rfl⟩) ⟨zPre.blind, va_recv hKr hL.m.1 (ci := 11) (q0 := 0) rfl rfl, zPre.go hZ hL.m.1 hKr hL.m.2⟩ rfl rfl hl.1 rfl (lv_room (Nat.le_of_ble_eq_true rfl)) dL_law_593 hB.ok0) (fun n9 H locs hn9 hL => ?_)
  have hB := hB.hs hn9
  have hc := hc.hs hn9
  have ht := ht.hs n9
  generalize CS.setHs σ n9 = σ at hc hL hB ht
  refine lv_istore (lv' := [(6, .int U.1), (5, .int 0), (0, .ref b), (1, .ref (Q.o 0)), (2, .ref P.h0), (3, .ref qO), (4, .int xi)]) hx hb dL_law_596 hl (by decide) rfl (fun ls hl => ?_)
  refine lv_goto (tgt := 601) hx hb dL_law_598 (by decide) ?_
  exact kk _ _ _ _ ls (lv_sub hl [2, 3, 4, 5, 6] rfl) ⟨_, _, _, _, hc, hr2, hL, hB, ht⟩
set_option maxHeartbeats 4000000 in
set_option maxRecDepth 100000 in
theorem L_c13_b2 {p : Program} {e : Env} {s : State} {m : MethodId} {below : List Frame} {meth : Method} {c : Code} (l : Launch) {b L : Nat} {xs : Nat → Int32} {A : Nat → Prop} (C0 : lw_At p s m meth c b L xs) (hL9 : L < 2 ^ 31) (hA : ∀ q : Nat, s.heap.size ≤ q → A q) (hAr : ∀ q : Nat, A q → s.heap.size ≤ q) (dC : Nat → ClassId) (dI : Nat → Nat → Nat) (hZ : zAMB s) {Q : CQ} {P : RQ} {qO : Nat} {kO : ClassId} (hK : va_K (dC, dI) vwCl (cT Q ++ (rT P ++ [(kO, .long)])) s) {H : Heap} {locs : List Loc} {ls : Array Slot} {cells slots i rest : Nat} {xi : Int32} (hxi : xi = nI i) (hi : i + 6 ≤ L) (hl : lv_has ls 7 [(0, .ref b), (1, .ref (Q.o 0)), (2, .ref P.h0), (3, .ref qO), (4, .int xi)]) (hT : zTHR A s s.heap) (hl9 : l.stackTraces = false) (hX : LST dC dI Q P qO kO A s.heap (rest + 1) cells slots H locs) {Z : State → Prop} {v1 v2 : Int32} (ev1 : v1 = xs (xi + 1).toNatClampNeg) (ev2 : v2 = xs (xi + 2).toNatClampNeg) (h1 : ¬ v1 < 0) (h2 : v2 < 0) (kk : ∀ (cells slots : Nat) (H : Heap) (locs : List Loc) (ls : Array Slot), lv_has ls 7 [(0, .ref b), (1, .ref (Q.o 0)), (2, .ref P.h0), (3, .ref qO), (4, .int xi)] → LST dC dI Q P qO kO A s.heap rest cells slots H locs → W p l e room_1 s m #[Value.ref b] below meth c H locs cells slots Z (F0 m 601 ls [])) : W p l e room_1 s m #[Value.ref b] below meth c H locs cells slots Z (F0 m 561 ls []) := by
  obtain ⟨hx, hb, hr9, hml, hown, hts, hSc, hbl, hlocks, hgv⟩ := id C0
  have hown : s.vm.findClass RL = some m.cls := hown
  have hbA : ¬ A b := fun h => absurd (hAr b h) (Nat.not_le.mpr hbl)
  have hts2 := lw_hts2 hts
  have hKr := hK.sub (tys' := rT P) [5, 6, 7] rfl
  have hKo := hK.sub (tys' := [(kO, .long)]) [8] rfl
  obtain ⟨σ, ρ, fo, h, hc, hr, hL, hB, ht⟩ := hX
  refine lv_aload_n hx hb dL_law_561 rfl (lv_at hl 1 rfl) ?_
  refine lv_aload_n hx hb dL_law_562 rfl (lv_at hl 0 rfl) ?_
  refine lv_iload hx hb dL_law_563 (lv_at hl 4 rfl) ?_
  refine lv_iconst (v := 1) hx hb dL_law_565 (by decide) ?_
  refine lv_iadd hx hb dL_law_566 ?_
  refine lv_topi (fun z1 ez1 => ?_)
  refine va_sld hx hb hSc hbl hbA hL.2.2.1 (i := z1) (z_in (k := 1) hxi rfl hi (by decide) hL9 ez1) dL_law_567 ?_
  rw [ez1, ← ev1]
  refine lv_aload_n hx hb dL_law_568 rfl (lv_at hl 0 rfl) ?_
  refine lv_iload hx hb dL_law_569 (lv_at hl 4 rfl) ?_
  refine lv_iconst (v := 2) hx hb dL_law_571 (by decide) ?_
  refine lv_iadd hx hb dL_law_572 ?_
  refine lv_topi (fun z2 ez2 => ?_)
  refine va_sld hx hb hSc hbl hbA hL.2.2.1 (i := z2) (z_in (k := 2) hxi rfl hi (by decide) hL9 ez2) dL_law_573 ?_
  rw [ez2, ← ev2]
  refine lv_aload_n hx hb dL_law_574 rfl (lv_at hl 3 rfl) ?_
  obtain ⟨hPc, hDc, hFc⟩ := hL.o hA
  refine lx_o (r0 := 0) (fo' := (vp_updL fo 0 (-1))) hL hA (vx_runSW (As := [.ref (Q.o 0), .int v1, .int v2, .ref qO]) (rest := []) ⟨hx, hb, hml, hown, hts2⟩ (c_L_rounds_b2 l dC dI _ (Q.o 0) v1 v2 qO kO fo (.ref (Q.q 0)) (.ref (Q.o 1)) (.ref (Q.o 2)) (.ref (Q.o 3)) (.ref (Q.o 7)) (.int (σ.i 5)) (.int (σ.i 6)) (.int (σ.i 7)) (.int (σ.i 8)) h1 h2) (vx_cwSW 4 hts2 hL_law_L_rounds_s76 rfl rfl rfl (by decide +kernel) ⟨Nat.le_of_ble_eq_true rfl, Nat.le_of_ble_eq_true rfl⟩) ⟨zPre.blind, zPre.go hZ hPc hKo hDc⟩ rfl rfl hl.1 rfl (lv_room (Nat.le_of_ble_eq_true rfl)) dL_law_575 hB.ok0) (fun n9 H locs hn9 hL => ?_)
  have hB := hB.wk.hs hn9
  have hc := hc.hs hn9
  have ht := ht.hs n9
  generalize CS.setHs σ n9 = σ at hc hL hB ht
  refine lv_istore (lv' := [(5, .int 0), (0, .ref b), (1, .ref (Q.o 0)), (2, .ref P.h0), (3, .ref qO), (4, .int xi)]) hx hb dL_law_578 hl (by decide) rfl (fun ls hl => ?_)
  refine lv_aload_n hx hb dL_law_580 rfl (lv_at hl 3 rfl) ?_
  refine lv_aload_n hx hb dL_law_581 rfl (lv_at hl 1 rfl) ?_
  refine lv_iload hx hb dL_law_582 (lv_at hl 5 rfl) ?_
  refine lv_iconst (v := 1) hx hb dL_law_584 (by decide) ?_
  refine lv_iadd hx hb dL_law_585 ?_
  refine lv_topi (fun z3 ez3 => ?_)
  refine va_sld hx hb hSc hbl hbA hL.2.2.1 (i := z3) (z_in (k := 1) hxi rfl hi (by decide) hL9 ez3) dL_law_586 ?_
  rw [ez3, ← ev1]
  refine lv_aload_n hx hb dL_law_587 rfl (lv_at hl 1 rfl) ?_
  refine lv_iload hx hb dL_law_588 (lv_at hl 5 rfl) ?_
  refine lv_iconst (v := 2) hx hb dL_law_590 (by decide) ?_
  refine lv_iadd hx hb dL_law_591 ?_
  refine lv_topi (fun z4 ez4 => ?_)
  refine va_sld hx hb hSc hbl hbA hL.2.2.1 (i := z4) (z_in (k := 2) hxi rfl hi (by decide) hL9 ez4) dL_law_592 ?_
  rw [ez4, ← ev2]
  obtain ⟨U, hf, hr2, u1, u2, u3⟩ := q_rnd hr v1 v2
  have ht := u_rounds ht v1 v2 hf
  refine lx_m hL hA (va_runV (As := [.int v1, .int v2]) (rest := []) ⟨hx, hb, hml, hown, hts2⟩ (c_X12_rounds l dC dI H.size P 10000000000 ρ v1 v2 U hf) (cwV 2 hts2 hL_law_X12_rounds_v81 rfl rfl rfl (by decide +kernel) ⟨Nat.le_of_ble_eq_true rfl, Nat.le_of_ble_eq_true rfl⟩) ⟨zPre.blind, va_recv hKr hL.m.1 (ci := 11) (q0 := 0) rfl rfl, zPre.go hZ hL.m.1 hKr hL.m.2⟩ rfl rfl hl.1 rfl (lv_room (Nat.le_of_ble_eq_true rfl)) dL_law_593 hB.ok0) (fun n9 H locs hn9 hL => ?_)
  have hB := hB.hs hn9
  have hc := hc.hs hn9
  have ht := ht.hs n9
  generalize CS.setHs σ n9 = σ at hc hL hB ht
  refine lv_istore (lv' := [(6, .int U.1), (5, .int 0), (0, .ref b), (1, .ref (Q.o 0)), (2, .ref P.h0), (3, .ref qO), (4, .int xi)]) hx hb dL_law_596 hl (by decide) rfl (fun ls hl => ?_)
  refine lv_goto (tgt := 601) hx hb dL_law_598 (by decide) ?_
  exact kk _ _ _ _ ls (lv_sub hl [2, 3, 4, 5, 6] rfl) ⟨_, _, _, _, hc, hr2, hL, hB, ht⟩
set_option maxHeartbeats 4000000 in
set_option maxRecDepth 100000 in
theorem L_c13_ok {p : Program} {e : Env} {s : State} {m : MethodId} {below : List Frame} {meth : Method} {c : Code} (l : Launch) {b L : Nat} {xs : Nat → Int32} {A : Nat → Prop} (C0 : lw_At p s m meth c b L xs) (hL9 : L < 2 ^ 31) (hA : ∀ q : Nat, s.heap.size ≤ q → A q) (hAr : ∀ q : Nat, A q → s.heap.size ≤ q) (dC : Nat → ClassId) (dI : Nat → Nat → Nat) (hZ : zAMB s) {Q : CQ} {P : RQ} {qO : Nat} {kO : ClassId} (hK : va_K (dC, dI) vwCl (cT Q ++ (rT P ++ [(kO, .long)])) s) {H : Heap} {locs : List Loc} {ls : Array Slot} {cells slots i rest : Nat} {xi : Int32} (hxi : xi = nI i) (hi : i + 6 ≤ L) (hl : lv_has ls 7 [(0, .ref b), (1, .ref (Q.o 0)), (2, .ref P.h0), (3, .ref qO), (4, .int xi)]) (hT : zTHR A s s.heap) (hl9 : l.stackTraces = false) (hX : LST dC dI Q P qO kO A s.heap (rest + 1) cells slots H locs) {Z : State → Prop} {v1 v2 : Int32} (ev1 : v1 = xs (xi + 1).toNatClampNeg) (ev2 : v2 = xs (xi + 2).toNatClampNeg) (h1 : ¬ v1 < 0) (h2 : ¬ v2 < 0) (h3 : ¬ v2 = 0) (kk : ∀ (cells slots : Nat) (H : Heap) (locs : List Loc) (ls : Array Slot), lv_has ls 7 [(0, .ref b), (1, .ref (Q.o 0)), (2, .ref P.h0), (3, .ref qO), (4, .int xi)] → LST dC dI Q P qO kO A s.heap rest cells slots H locs → W p l e room_1 s m #[Value.ref b] below meth c H locs cells slots Z (F0 m 601 ls [])) : W p l e room_1 s m #[Value.ref b] below meth c H locs cells slots Z (F0 m 561 ls []) := by
  obtain ⟨hx, hb, hr9, hml, hown, hts, hSc, hbl, hlocks, hgv⟩ := id C0
  have hown : s.vm.findClass RL = some m.cls := hown
  have hbA : ¬ A b := fun h => absurd (hAr b h) (Nat.not_le.mpr hbl)
  have hts2 := lw_hts2 hts
  have hKr := hK.sub (tys' := rT P) [5, 6, 7] rfl
  have hKo := hK.sub (tys' := [(kO, .long)]) [8] rfl
  obtain ⟨σ, ρ, fo, h, hc, hr, hL, hB, ht⟩ := hX
  refine lv_aload_n hx hb dL_law_561 rfl (lv_at hl 1 rfl) ?_
  refine lv_aload_n hx hb dL_law_562 rfl (lv_at hl 0 rfl) ?_
  refine lv_iload hx hb dL_law_563 (lv_at hl 4 rfl) ?_
  refine lv_iconst (v := 1) hx hb dL_law_565 (by decide) ?_
  refine lv_iadd hx hb dL_law_566 ?_
  refine lv_topi (fun z1 ez1 => ?_)
  refine va_sld hx hb hSc hbl hbA hL.2.2.1 (i := z1) (z_in (k := 1) hxi rfl hi (by decide) hL9 ez1) dL_law_567 ?_
  rw [ez1, ← ev1]
  refine lv_aload_n hx hb dL_law_568 rfl (lv_at hl 0 rfl) ?_
  refine lv_iload hx hb dL_law_569 (lv_at hl 4 rfl) ?_
  refine lv_iconst (v := 2) hx hb dL_law_571 (by decide) ?_
  refine lv_iadd hx hb dL_law_572 ?_
  refine lv_topi (fun z2 ez2 => ?_)
  refine va_sld hx hb hSc hbl hbA hL.2.2.1 (i := z2) (z_in (k := 2) hxi rfl hi (by decide) hL9 ez2) dL_law_573 ?_
  rw [ez2, ← ev2]
  refine lv_aload_n hx hb dL_law_574 rfl (lv_at hl 3 rfl) ?_
  obtain ⟨hPc, hDc, hFc⟩ := hL.o hA
  refine lx_o (r0 := 0) (fo' := (vp_updL fo 0 ((zR v1 v2).toInt64))) hL hA (vx_runSW (As := [.ref (Q.o 0), .int v1, .int v2, .ref qO]) (rest := []) ⟨hx, hb, hml, hown, hts2⟩ (c_L_rounds_ok l dC dI _ (Q.o 0) v1 v2 qO kO fo (.ref (Q.q 0)) (.ref (Q.o 1)) (.ref (Q.o 2)) (.ref (Q.o 3)) (.ref (Q.o 7)) (.int (σ.i 5)) (.int (σ.i 6)) (.int (σ.i 7)) (.int (σ.i 8)) h1 h2 h3) (vx_cwSW 4 hts2 hL_law_L_rounds_s76 rfl rfl rfl (by decide +kernel) ⟨Nat.le_of_ble_eq_true rfl, Nat.le_of_ble_eq_true rfl⟩) ⟨zPre.blind, zPre.go hZ hPc hKo hDc⟩ rfl rfl hl.1 rfl (lv_room (Nat.le_of_ble_eq_true rfl)) dL_law_575 hB.ok0) (fun n9 H locs hn9 hL => ?_)
  have hB := hB.wk.hs hn9
  have hc := hc.hs hn9
  have ht := ht.hs n9
  generalize CS.setHs σ n9 = σ at hc hL hB ht
  refine lv_istore (lv' := [(5, .int 0), (0, .ref b), (1, .ref (Q.o 0)), (2, .ref P.h0), (3, .ref qO), (4, .int xi)]) hx hb dL_law_578 hl (by decide) rfl (fun ls hl => ?_)
  refine lv_aload_n hx hb dL_law_580 rfl (lv_at hl 3 rfl) ?_
  refine lv_aload_n hx hb dL_law_581 rfl (lv_at hl 1 rfl) ?_
  refine lv_iload hx hb dL_law_582 (lv_at hl 5 rfl) ?_
  refine lv_iconst (v := 1) hx hb dL_law_584 (by decide) ?_
  refine lv_iadd hx hb dL_law_585 ?_
  refine lv_topi (fun z3 ez3 => ?_)
  refine va_sld hx hb hSc hbl hbA hL.2.2.1 (i := z3) (z_in (k := 1) hxi rfl hi (by decide) hL9 ez3) dL_law_586 ?_
  rw [ez3, ← ev1]
  refine lv_aload_n hx hb dL_law_587 rfl (lv_at hl 1 rfl) ?_
  refine lv_iload hx hb dL_law_588 (lv_at hl 5 rfl) ?_
  refine lv_iconst (v := 2) hx hb dL_law_590 (by decide) ?_
  refine lv_iadd hx hb dL_law_591 ?_
  refine lv_topi (fun z4 ez4 => ?_)
  refine va_sld hx hb hSc hbl hbA hL.2.2.1 (i := z4) (z_in (k := 2) hxi rfl hi (by decide) hL9 ez4) dL_law_592 ?_
  rw [ez4, ← ev2]
  obtain ⟨U, hf, hr2, u1, u2, u3⟩ := q_rnd hr v1 v2
  have ht := u_rounds ht v1 v2 hf
  refine lx_m hL hA (va_runV (As := [.int v1, .int v2]) (rest := []) ⟨hx, hb, hml, hown, hts2⟩ (c_X12_rounds l dC dI H.size P 10000000000 ρ v1 v2 U hf) (cwV 2 hts2 hL_law_X12_rounds_v81 rfl rfl rfl (by decide +kernel) ⟨Nat.le_of_ble_eq_true rfl, Nat.le_of_ble_eq_true rfl⟩) ⟨zPre.blind, va_recv hKr hL.m.1 (ci := 11) (q0 := 0) rfl rfl, zPre.go hZ hL.m.1 hKr hL.m.2⟩ rfl rfl hl.1 rfl (lv_room (Nat.le_of_ble_eq_true rfl)) dL_law_593 hB.ok0) (fun n9 H locs hn9 hL => ?_)
  have hB := hB.hs hn9
  have hc := hc.hs hn9
  have ht := ht.hs n9
  generalize CS.setHs σ n9 = σ at hc hL hB ht
  refine lv_istore (lv' := [(6, .int U.1), (5, .int 0), (0, .ref b), (1, .ref (Q.o 0)), (2, .ref P.h0), (3, .ref qO), (4, .int xi)]) hx hb dL_law_596 hl (by decide) rfl (fun ls hl => ?_)
  refine lv_goto (tgt := 601) hx hb dL_law_598 (by decide) ?_
  exact kk _ _ _ _ ls (lv_sub hl [2, 3, 4, 5, 6] rfl) ⟨_, _, _, _, hc, hr2, hL, hB, ht⟩
set_option maxHeartbeats 4000000 in
set_option maxRecDepth 100000 in
theorem L_c13_z {p : Program} {e : Env} {s : State} {m : MethodId} {below : List Frame} {meth : Method} {c : Code} (l : Launch) {b L : Nat} {xs : Nat → Int32} {A : Nat → Prop} (C0 : lw_At p s m meth c b L xs) (hL9 : L < 2 ^ 31) (hA : ∀ q : Nat, s.heap.size ≤ q → A q) (hAr : ∀ q : Nat, A q → s.heap.size ≤ q) (dC : Nat → ClassId) (dI : Nat → Nat → Nat) (hZ : zAMB s) {Q : CQ} {P : RQ} {qO : Nat} {kO : ClassId} (hK : va_K (dC, dI) vwCl (cT Q ++ (rT P ++ [(kO, .long)])) s) {H : Heap} {locs : List Loc} {ls : Array Slot} {cells slots i rest : Nat} {xi : Int32} (hxi : xi = nI i) (hi : i + 6 ≤ L) (hl : lv_has ls 7 [(0, .ref b), (1, .ref (Q.o 0)), (2, .ref P.h0), (3, .ref qO), (4, .int xi)]) (hT : zTHR A s s.heap) (hl9 : l.stackTraces = false) (hX : LST dC dI Q P qO kO A s.heap (rest + 1) cells slots H locs) {Z : State → Prop} {v1 v2 : Int32} (ev1 : v1 = xs (xi + 1).toNatClampNeg) (ev2 : v2 = xs (xi + 2).toNatClampNeg) (h1 : ¬ v1 < 0) (h2 : v2 = 0) (kk : ∀ (cells slots : Nat) (H : Heap) (locs : List Loc) (ls : Array Slot), lv_has ls 7 [(0, .ref b), (1, .ref (Q.o 0)), (2, .ref P.h0), (3, .ref qO), (4, .int xi)] → LST dC dI Q P qO kO A s.heap rest cells slots H locs → W p l e room_1 s m #[Value.ref b] below meth c H locs cells slots Z (F0 m 601 ls [])) : W p l e room_1 s m #[Value.ref b] below meth c H locs cells slots Z (F0 m 561 ls []) := by
  obtain ⟨hx, hb, hr9, hml, hown, hts, hSc, hbl, hlocks, hgv⟩ := id C0
  have hown : s.vm.findClass RL = some m.cls := hown
  have hbA : ¬ A b := fun h => absurd (hAr b h) (Nat.not_le.mpr hbl)
  have hts2 := lw_hts2 hts
  have hKr := hK.sub (tys' := rT P) [5, 6, 7] rfl
  have hKo := hK.sub (tys' := [(kO, .long)]) [8] rfl
  obtain ⟨σ, ρ, fo, h, hc, hr, hL, hB, ht⟩ := hX
  refine lv_aload_n hx hb dL_law_561 rfl (lv_at hl 1 rfl) ?_
  refine lv_aload_n hx hb dL_law_562 rfl (lv_at hl 0 rfl) ?_
  refine lv_iload hx hb dL_law_563 (lv_at hl 4 rfl) ?_
  refine lv_iconst (v := 1) hx hb dL_law_565 (by decide) ?_
  refine lv_iadd hx hb dL_law_566 ?_
  refine lv_topi (fun z1 ez1 => ?_)
  refine va_sld hx hb hSc hbl hbA hL.2.2.1 (i := z1) (z_in (k := 1) hxi rfl hi (by decide) hL9 ez1) dL_law_567 ?_
  rw [ez1, ← ev1]
  refine lv_aload_n hx hb dL_law_568 rfl (lv_at hl 0 rfl) ?_
  refine lv_iload hx hb dL_law_569 (lv_at hl 4 rfl) ?_
  refine lv_iconst (v := 2) hx hb dL_law_571 (by decide) ?_
  refine lv_iadd hx hb dL_law_572 ?_
  refine lv_topi (fun z2 ez2 => ?_)
  refine va_sld hx hb hSc hbl hbA hL.2.2.1 (i := z2) (z_in (k := 2) hxi rfl hi (by decide) hL9 ez2) dL_law_573 ?_
  rw [ez2, ← ev2]
  rw [h2]
  refine lv_aload_n hx hb dL_law_574 rfl (lv_at hl 3 rfl) ?_
  obtain ⟨hPc, hDc, hFc⟩ := hL.o hA
  refine lx_o (r0 := 1) (fo' := fo) hL hA (vx_runSW (As := [.ref (Q.o 0), .int v1, .int 0, .ref qO]) (rest := []) ⟨hx, hb, hml, hown, hts2⟩ (c_L_rounds_z l dC dI _ (Q.o 0) v1 qO kO fo (.ref (Q.q 0)) (.ref (Q.o 1)) (.ref (Q.o 2)) (.ref (Q.o 3)) (.ref (Q.o 7)) (.int (σ.i 5)) (.int (σ.i 6)) (.int (σ.i 7)) (.int (σ.i 8)) hl9 h1) (vx_cwSW 4 hts2 hL_law_L_rounds_s76 rfl rfl rfl (by decide +kernel) ⟨Nat.le_of_ble_eq_true rfl, Nat.le_of_ble_eq_true rfl⟩) ⟨zPreT.blind, zPreT.go hT hL.2.2.1 hFc hZ hPc hKo hDc⟩ rfl rfl hl.1 rfl (lv_room (Nat.le_of_ble_eq_true rfl)) dL_law_575 hB.ok1) (fun n9 H locs hn9 hL => ?_)
  have hB := hB.ex hn9
  have hc := hc.hs hn9
  have ht := ht.hs n9
  generalize CS.setHs σ n9 = σ at hc hL hB ht
  refine lv_istore (lv' := [(5, .int 1), (0, .ref b), (1, .ref (Q.o 0)), (2, .ref P.h0), (3, .ref qO), (4, .int xi)]) hx hb dL_law_578 hl (by decide) rfl (fun ls hl => ?_)
  refine lv_aload_n hx hb dL_law_580 rfl (lv_at hl 3 rfl) ?_
  refine lv_aload_n hx hb dL_law_581 rfl (lv_at hl 1 rfl) ?_
  refine lv_iload hx hb dL_law_582 (lv_at hl 5 rfl) ?_
  refine lv_iconst (v := 1) hx hb dL_law_584 (by decide) ?_
  refine lv_iadd hx hb dL_law_585 ?_
  refine lv_topi (fun z3 ez3 => ?_)
  refine va_sld hx hb hSc hbl hbA hL.2.2.1 (i := z3) (z_in (k := 1) hxi rfl hi (by decide) hL9 ez3) dL_law_586 ?_
  rw [ez3, ← ev1]
  refine lv_aload_n hx hb dL_law_587 rfl (lv_at hl 1 rfl) ?_
  refine lv_iload hx hb dL_law_588 (lv_at hl 5 rfl) ?_
  refine lv_iconst (v := 2) hx hb dL_law_590 (by decide) ?_
  refine lv_iadd hx hb dL_law_591 ?_
  refine lv_topi (fun z4 ez4 => ?_)
  refine va_sld hx hb hSc hbl hbA hL.2.2.1 (i := z4) (z_in (k := 2) hxi rfl hi (by decide) hL9 ez4) dL_law_592 ?_
  rw [ez4, ← ev2]
  obtain ⟨U, hf, hr2, u1, u2, u3⟩ := q_rnd hr v1 v2
  have ht := u_rounds ht v1 v2 hf
  refine lx_m hL hA (va_runV (As := [.int v1, .int v2]) (rest := []) ⟨hx, hb, hml, hown, hts2⟩ (c_X12_rounds l dC dI H.size P 10000000000 ρ v1 v2 U hf) (cwV 2 hts2 hL_law_X12_rounds_v81 rfl rfl rfl (by decide +kernel) ⟨Nat.le_of_ble_eq_true rfl, Nat.le_of_ble_eq_true rfl⟩) ⟨zPre.blind, va_recv hKr hL.m.1 (ci := 11) (q0 := 0) rfl rfl, zPre.go hZ hL.m.1 hKr hL.m.2⟩ rfl rfl hl.1 rfl (lv_room (Nat.le_of_ble_eq_true rfl)) dL_law_593 hB.ok0) (fun n9 H locs hn9 hL => ?_)
  have hB := hB.hs hn9
  have hc := hc.hs hn9
  have ht := ht.hs n9
  generalize CS.setHs σ n9 = σ at hc hL hB ht
  refine lv_istore (lv' := [(6, .int U.1), (5, .int 1), (0, .ref b), (1, .ref (Q.o 0)), (2, .ref P.h0), (3, .ref qO), (4, .int xi)]) hx hb dL_law_596 hl (by decide) rfl (fun ls hl => ?_)
  refine lv_goto (tgt := 601) hx hb dL_law_598 (by decide) ?_
  exact kk _ _ _ _ ls (lv_sub hl [2, 3, 4, 5, 6] rfl) ⟨_, _, _, _, hc, hr2, hL, hB, ht⟩
