set_option maxHeartbeats 4000000 in
set_option maxRecDepth 100000 in
theorem L_c0 {p : Program} {e : Env} {s : State} {m : MethodId} {below : List Frame} {meth : Method} {c : Code} (l : Launch) {b L : Nat} {xs : Nat → Int32} {A : Nat → Prop} (C0 : lw_At p s m meth c b L xs) (hL9 : L < 2 ^ 31) (hA : ∀ q : Nat, s.heap.size ≤ q → A q) (hAr : ∀ q : Nat, A q → s.heap.size ≤ q) (dC : Nat → ClassId) (dI : Nat → Nat → Nat) (hZ : zAMB s) {Q : CQ} {P : RQ} {qO : Nat} {kO : ClassId} (hK : va_K (dC, dI) vwCl (cT Q ++ (rT P ++ [(kO, .long)])) s) {H : Heap} {locs : List Loc} {ls : Array Slot} {cells slots i rest : Nat} {xi : Int32} (hxi : xi = nI i) (hi : i + 6 ≤ L) (hl : lv_has ls 7 [(0, .ref b), (1, .ref (Q.o 0)), (2, .ref P.h0), (3, .ref qO), (4, .int xi)]) (hX : LST dC dI Q P qO kO A s.heap rest cells slots H locs) {Z : State → Prop} (kk : ∀ (cells slots : Nat) (H : Heap) (locs : List Loc), LST dC dI Q P qO kO A s.heap rest cells slots H locs → W p l e room_1 s m #[Value.ref b] below meth c H locs cells slots Z (F0 m 601 ls [])) : W p l e room_1 s m #[Value.ref b] below meth c H locs cells slots Z (F0 m 112 ls []) := by
  obtain ⟨hx, hb, hr9, hml, hown, hts, hSc, hbl, hlocks, hgv⟩ := id C0
  have hown : s.vm.findClass RL = some m.cls := hown
  have hbA : ¬ A b := fun h => absurd (hAr b h) (Nat.not_le.mpr hbl)
  have hts2 := lw_hts2 hts
  have hKc := hK.sub (tys' := cT Q) [0, 1, 2, 3, 4] rfl
  have hKr := hK.sub (tys' := rT P) [5, 6, 7] rfl
  have hN : 10000000000 ≤ 10000000000 := Nat.le_refl _
  have hN1 : 1000 ≤ 10000000000 := by decide
  obtain ⟨v1, ev1⟩ : ∃ v, v = xs (xi + 1).toNatClampNeg := ⟨_, rfl⟩
  obtain ⟨v2, ev2⟩ : ∃ v, v = xs (xi + 2).toNatClampNeg := ⟨_, rfl⟩
  obtain ⟨v3, ev3⟩ : ∃ v, v = xs (xi + 3).toNatClampNeg := ⟨_, rfl⟩
  obtain ⟨v4, ev4⟩ : ∃ v, v = xs (xi + 4).toNatClampNeg := ⟨_, rfl⟩
  obtain ⟨v5, ev5⟩ : ∃ v, v = xs (xi + 5).toNatClampNeg := ⟨_, rfl⟩
  obtain ⟨σ, ρ, fo, h, hc, hr, hL, hB, ht⟩ := hX
  refine lv_aload_n hx hb dL_law_112 rfl (lv_at hl 1 rfl) ?_
  refine lv_aload_n hx hb dL_law_113 rfl (lv_at hl 0 rfl) ?_
  refine lv_iload hx hb dL_law_114 (lv_at hl 4 rfl) ?_
  refine lv_iconst (v := 1) hx hb dL_law_116 (by decide) ?_
  refine lv_iadd hx hb dL_law_117 ?_
  refine lv_topi (fun z1 ez1 => ?_)
  refine va_sld hx hb hSc hbl hbA hL.2.2.1 (i := z1) (z_in (k := 1) hxi rfl hi (by decide) hL9 ez1) dL_law_118 ?_
  rw [ez1, ← ev1]
  refine lv_aload_n hx hb dL_law_119 rfl (lv_at hl 0 rfl) ?_
  refine lv_iload hx hb dL_law_120 (lv_at hl 4 rfl) ?_
  refine lv_iconst (v := 2) hx hb dL_law_122 (by decide) ?_
  refine lv_iadd hx hb dL_law_123 ?_
  refine lv_topi (fun z2 ez2 => ?_)
  refine va_sld hx hb hSc hbl hbA hL.2.2.1 (i := z2) (z_in (k := 2) hxi rfl hi (by decide) hL9 ez2) dL_law_124 ?_
  rw [ez2, ← ev2]
  refine lv_aload_n hx hb dL_law_125 rfl (lv_at hl 0 rfl) ?_
  refine lv_iload hx hb dL_law_126 (lv_at hl 4 rfl) ?_
  refine lv_iconst (v := 3) hx hb dL_law_128 (by decide) ?_
  refine lv_iadd hx hb dL_law_129 ?_
  refine lv_topi (fun z3 ez3 => ?_)
  refine va_sld hx hb hSc hbl hbA hL.2.2.1 (i := z3) (z_in (k := 3) hxi rfl hi (by decide) hL9 ez3) dL_law_130 ?_
  rw [ez3, ← ev3]
  refine lv_aload_n hx hb dL_law_131 rfl (lv_at hl 0 rfl) ?_
  refine lv_iload hx hb dL_law_132 (lv_at hl 4 rfl) ?_
  refine lv_iconst (v := 4) hx hb dL_law_134 (by decide) ?_
  refine lv_iadd hx hb dL_law_135 ?_
  refine lv_topi (fun z4 ez4 => ?_)
  refine va_sld hx hb hSc hbl hbA hL.2.2.1 (i := z4) (z_in (k := 4) hxi rfl hi (by decide) hL9 ez4) dL_law_136 ?_
  rw [ez4, ← ev4]
  refine lv_aload_n hx hb dL_law_137 rfl (lv_at hl 0 rfl) ?_
  refine lv_iload hx hb dL_law_138 (lv_at hl 4 rfl) ?_
  refine lv_iconst (v := 5) hx hb dL_law_140 (by decide) ?_
  refine lv_iadd hx hb dL_law_141 ?_
  refine lv_topi (fun z5 ez5 => ?_)
  refine va_sld hx hb hSc hbl hbA hL.2.2.1 (i := z5) (z_in (k := 5) hxi rfl hi (by decide) hL9 ez5) dL_law_142 ?_
  rw [ez5, ← ev5]
  obtain ⟨T, hfX, hc2⟩ : ok (f_X11_feed 10000000000 σ v1 v2 v3 v4 v5) (fun R => CIV h R.2) := z_feed hN1 hc v1 v2 v3 v4 v5
  have mo : CS.hs σ ≤ CS.hs T.2 := Mono.go hfX (m_X11_feed 10000000000 σ v1 v2 v3 v4 v5)
  have lt := hc2.lt
  refine lx_i hL hA (va_runV (As := [.int v1, .int v2, .int v3, .int v4, .int v5]) (rest := []) ⟨hx, hb, hml, hown, hts2⟩ (c_X11_feed l dC dI Q 10000000000 σ v1 v2 v3 v4 v5 T hfX) (cwV 5 hts2 hL_law_X11_feed_v19 rfl rfl rfl (by decide +kernel) ⟨Nat.le_of_ble_eq_true rfl, Nat.le_of_ble_eq_true rfl⟩) ⟨zPre.blind, va_recv hKc hL.c.1 (ci := 10) (q0 := 0) rfl rfl, cPre_go hZ hKc hL.c⟩ rfl rfl hl.1 rfl (lv_room (Nat.le_of_ble_eq_true rfl)) dL_law_143 (hB.ok mo lt)) (fun H locs hL => ?_)
  have hB := hB.go mo lt
  have hcX := hc
  have hc := hc2
  clear mo lt hc2
  generalize hgc : cells + (CS.hs T.2 - CS.hs σ) = cells1 at hB ⊢
  generalize hgs : slots + 17 * (CS.hs T.2 - CS.hs σ) = slots1 at hB ⊢
  clear hgc hgs
  generalize cells1 = cells at hB ⊢
  generalize slots1 = slots at hB ⊢
  refine lv_pop hx hb dL_law_146 rfl ?_
  refine lv_aload_n hx hb dL_law_147 rfl (lv_at hl 2 rfl) ?_
  refine lv_aload_n hx hb dL_law_148 rfl (lv_at hl 0 rfl) ?_
  refine lv_iload hx hb dL_law_149 (lv_at hl 4 rfl) ?_
  refine lv_iconst (v := 1) hx hb dL_law_151 (by decide) ?_
  refine lv_iadd hx hb dL_law_152 ?_
  refine lv_topi (fun z6 ez6 => ?_)
  refine va_sld hx hb hSc hbl hbA hL.2.2.1 (i := z6) (z_in (k := 1) hxi rfl hi (by decide) hL9 ez6) dL_law_153 ?_
  rw [ez6, ← ev1]
  refine lv_aload_n hx hb dL_law_154 rfl (lv_at hl 0 rfl) ?_
  refine lv_iload hx hb dL_law_155 (lv_at hl 4 rfl) ?_
  refine lv_iconst (v := 2) hx hb dL_law_157 (by decide) ?_
  refine lv_iadd hx hb dL_law_158 ?_
  refine lv_topi (fun z7 ez7 => ?_)
  refine va_sld hx hb hSc hbl hbA hL.2.2.1 (i := z7) (z_in (k := 2) hxi rfl hi (by decide) hL9 ez7) dL_law_159 ?_
  rw [ez7, ← ev2]
  refine lv_aload_n hx hb dL_law_160 rfl (lv_at hl 0 rfl) ?_
  refine lv_iload hx hb dL_law_161 (lv_at hl 4 rfl) ?_
  refine lv_iconst (v := 3) hx hb dL_law_163 (by decide) ?_
  refine lv_iadd hx hb dL_law_164 ?_
  refine lv_topi (fun z8 ez8 => ?_)
  refine va_sld hx hb hSc hbl hbA hL.2.2.1 (i := z8) (z_in (k := 3) hxi rfl hi (by decide) hL9 ez8) dL_law_165 ?_
  rw [ez8, ← ev3]
  refine lv_aload_n hx hb dL_law_166 rfl (lv_at hl 0 rfl) ?_
  refine lv_iload hx hb dL_law_167 (lv_at hl 4 rfl) ?_
  refine lv_iconst (v := 4) hx hb dL_law_169 (by decide) ?_
  refine lv_iadd hx hb dL_law_170 ?_
  refine lv_topi (fun z9 ez9 => ?_)
  refine va_sld hx hb hSc hbl hbA hL.2.2.1 (i := z9) (z_in (k := 4) hxi rfl hi (by decide) hL9 ez9) dL_law_171 ?_
  rw [ez9, ← ev4]
  refine lv_aload_n hx hb dL_law_172 rfl (lv_at hl 0 rfl) ?_
  refine lv_iload hx hb dL_law_173 (lv_at hl 4 rfl) ?_
  refine lv_iconst (v := 5) hx hb dL_law_175 (by decide) ?_
  refine lv_iadd hx hb dL_law_176 ?_
  refine lv_topi (fun z10 ez10 => ?_)
  refine va_sld hx hb hSc hbl hbA hL.2.2.1 (i := z10) (z_in (k := 5) hxi rfl hi (by decide) hL9 ez10) dL_law_177 ?_
  rw [ez10, ← ev5]
  obtain ⟨U, hfM, hr2⟩ : ok (f_X12_feed 10000000000 ρ v1 v2 v3 v4 v5) (fun R => RI R.2) := q_feed (by decide) v1 v2 v3 v4 v5 hr
  refine lx_m hL hA (va_runV (As := [.int v1, .int v2, .int v3, .int v4, .int v5]) (rest := []) ⟨hx, hb, hml, hown, hts2⟩ (c_X12_feed l dC dI H.size P 10000000000 ρ v1 v2 v3 v4 v5 U hfM) (cwV 5 hts2 hL_law_X12_feed_v23 rfl rfl rfl (by decide +kernel) ⟨Nat.le_of_ble_eq_true rfl, Nat.le_of_ble_eq_true rfl⟩) ⟨zPre.blind, va_recv hKr hL.m.1 (ci := 11) (q0 := 0) rfl rfl, zPre.go hZ hL.m.1 hKr hL.m.2⟩ rfl rfl hl.1 rfl (lv_room (Nat.le_of_ble_eq_true rfl)) dL_law_178 hB.ok0) (fun n9 H locs hn9 hL => ?_)
  have hB := hB.hs hn9
  have hc := hc.hs hn9
  obtain ⟨ht2, ha⟩ := u_feed hN1 hcX ht v1 v2 v3 v4 v5 hfX hfM
  have ht := ht2.hs n9
  have hr := hr2
  clear hfM hfX ht2 hr2 hcX
  refine lv_pop hx hb dL_law_181 rfl ?_
  refine lv_goto (tgt := 601) hx hb dL_law_182 (by decide) ?_
  exact kk _ _ _ _ ⟨_, _, _, _, hc, hr, hL, hB, ht⟩
set_option maxHeartbeats 4000000 in
set_option maxRecDepth 100000 in
theorem L_c1 {p : Program} {e : Env} {s : State} {m : MethodId} {below : List Frame} {meth : Method} {c : Code} (l : Launch) {b L : Nat} {xs : Nat → Int32} {A : Nat → Prop} (C0 : lw_At p s m meth c b L xs) (hL9 : L < 2 ^ 31) (hA : ∀ q : Nat, s.heap.size ≤ q → A q) (hAr : ∀ q : Nat, A q → s.heap.size ≤ q) (dC : Nat → ClassId) (dI : Nat → Nat → Nat) (hZ : zAMB s) {Q : CQ} {P : RQ} {qO : Nat} {kO : ClassId} (hK : va_K (dC, dI) vwCl (cT Q ++ (rT P ++ [(kO, .long)])) s) {H : Heap} {locs : List Loc} {ls : Array Slot} {cells slots i rest : Nat} {xi : Int32} (hxi : xi = nI i) (hi : i + 6 ≤ L) (hl : lv_has ls 7 [(0, .ref b), (1, .ref (Q.o 0)), (2, .ref P.h0), (3, .ref qO), (4, .int xi)]) (hX : LST dC dI Q P qO kO A s.heap rest cells slots H locs) {Z : State → Prop} (kk : ∀ (cells slots : Nat) (H : Heap) (locs : List Loc), LST dC dI Q P qO kO A s.heap rest cells slots H locs → W p l e room_1 s m #[Value.ref b] below meth c H locs cells slots Z (F0 m 601 ls [])) : W p l e room_1 s m #[Value.ref b] below meth c H locs cells slots Z (F0 m 185 ls []) := by
  obtain ⟨hx, hb, hr9, hml, hown, hts, hSc, hbl, hlocks, hgv⟩ := id C0
  have hown : s.vm.findClass RL = some m.cls := hown
  have hbA : ¬ A b := fun h => absurd (hAr b h) (Nat.not_le.mpr hbl)
  have hts2 := lw_hts2 hts
  have hKc := hK.sub (tys' := cT Q) [0, 1, 2, 3, 4] rfl
  have hKr := hK.sub (tys' := rT P) [5, 6, 7] rfl
  have hN : 10000000000 ≤ 10000000000 := Nat.le_refl _
  have hN1 : 1000 ≤ 10000000000 := by decide
  obtain ⟨v1, ev1⟩ : ∃ v, v = xs (xi + 1).toNatClampNeg := ⟨_, rfl⟩
  obtain ⟨σ, ρ, fo, h, hc, hr, hL, hB, ht⟩ := hX
  refine lv_aload_n hx hb dL_law_185 rfl (lv_at hl 1 rfl) ?_
  refine lv_aload_n hx hb dL_law_186 rfl (lv_at hl 0 rfl) ?_
  refine lv_iload hx hb dL_law_187 (lv_at hl 4 rfl) ?_
  refine lv_iconst (v := 1) hx hb dL_law_189 (by decide) ?_
  refine lv_iadd hx hb dL_law_190 ?_
  refine lv_topi (fun z1 ez1 => ?_)
  refine va_sld hx hb hSc hbl hbA hL.2.2.1 (i := z1) (z_in (k := 1) hxi rfl hi (by decide) hL9 ez1) dL_law_191 ?_
  rw [ez1, ← ev1]
  obtain ⟨T, hfX, hc2⟩ : ok (f_X11_cut 10000000000 σ v1) (fun R => CIV h R.2) := z_cut hc v1
  have mo : CS.hs σ ≤ CS.hs T.2 := Mono.go hfX (m_X11_cut 10000000000 σ v1)
  have lt := hc2.lt
  refine lx_i hL hA (va_runV (As := [.int v1]) (rest := []) ⟨hx, hb, hml, hown, hts2⟩ (c_X11_cut l dC dI Q 10000000000 σ v1 T hfX) (cwV 1 hts2 hL_law_X11_cut_v24 rfl rfl rfl (by decide +kernel) ⟨Nat.le_of_ble_eq_true rfl, Nat.le_of_ble_eq_true rfl⟩) ⟨zPre.blind, va_recv hKc hL.c.1 (ci := 10) (q0 := 0) rfl rfl, cPre_go hZ hKc hL.c⟩ rfl rfl hl.1 rfl (lv_room (Nat.le_of_ble_eq_true rfl)) dL_law_192 (hB.ok mo lt)) (fun H locs hL => ?_)
  have hB := hB.go mo lt
  have hcX := hc
  have hc := hc2
  clear mo lt hc2
  generalize hgc : cells + (CS.hs T.2 - CS.hs σ) = cells1 at hB ⊢
  generalize hgs : slots + 17 * (CS.hs T.2 - CS.hs σ) = slots1 at hB ⊢
  clear hgc hgs
  generalize cells1 = cells at hB ⊢
  generalize slots1 = slots at hB ⊢
  refine lv_pop hx hb dL_law_195 rfl ?_
  refine lv_aload_n hx hb dL_law_196 rfl (lv_at hl 2 rfl) ?_
  refine lv_aload_n hx hb dL_law_197 rfl (lv_at hl 0 rfl) ?_
  refine lv_iload hx hb dL_law_198 (lv_at hl 4 rfl) ?_
  refine lv_iconst (v := 1) hx hb dL_law_200 (by decide) ?_
  refine lv_iadd hx hb dL_law_201 ?_
  refine lv_topi (fun z2 ez2 => ?_)
  refine va_sld hx hb hSc hbl hbA hL.2.2.1 (i := z2) (z_in (k := 1) hxi rfl hi (by decide) hL9 ez2) dL_law_202 ?_
  rw [ez2, ← ev1]
  obtain ⟨U, hfM, hr2⟩ : ok (f_X12_cut 10000000000 ρ v1) (fun R => RI R.2) := q_cut v1 hr
  refine lx_m hL hA (va_runV (As := [.int v1]) (rest := []) ⟨hx, hb, hml, hown, hts2⟩ (c_X12_cut l dC dI H.size P 10000000000 ρ v1 U hfM) (cwV 1 hts2 hL_law_X12_cut_v28 rfl rfl rfl (by decide +kernel) ⟨Nat.le_of_ble_eq_true rfl, Nat.le_of_ble_eq_true rfl⟩) ⟨zPre.blind, va_recv hKr hL.m.1 (ci := 11) (q0 := 0) rfl rfl, zPre.go hZ hL.m.1 hKr hL.m.2⟩ rfl rfl hl.1 rfl (lv_room (Nat.le_of_ble_eq_true rfl)) dL_law_203 hB.ok0) (fun n9 H locs hn9 hL => ?_)
  have hB := hB.hs hn9
  have hc := hc.hs hn9
  obtain ⟨ht2, ha⟩ := u_cut ht v1 hfX hfM
  have ht := ht2.hs n9
  have hr := hr2
  clear hfM hfX ht2 hr2 hcX
  refine lv_pop hx hb dL_law_206 rfl ?_
  refine lv_goto (tgt := 601) hx hb dL_law_207 (by decide) ?_
  exact kk _ _ _ _ ⟨_, _, _, _, hc, hr, hL, hB, ht⟩
set_option maxHeartbeats 4000000 in
set_option maxRecDepth 100000 in
theorem L_c2 {p : Program} {e : Env} {s : State} {m : MethodId} {below : List Frame} {meth : Method} {c : Code} (l : Launch) {b L : Nat} {xs : Nat → Int32} {A : Nat → Prop} (C0 : lw_At p s m meth c b L xs) (hL9 : L < 2 ^ 31) (hA : ∀ q : Nat, s.heap.size ≤ q → A q) (hAr : ∀ q : Nat, A q → s.heap.size ≤ q) (dC : Nat → ClassId) (dI : Nat → Nat → Nat) (hZ : zAMB s) {Q : CQ} {P : RQ} {qO : Nat} {kO : ClassId} (hK : va_K (dC, dI) vwCl (cT Q ++ (rT P ++ [(kO, .long)])) s) {H : Heap} {locs : List Loc} {ls : Array Slot} {cells slots i rest : Nat} {xi : Int32} (hxi : xi = nI i) (hi : i + 6 ≤ L) (hl : lv_has ls 7 [(0, .ref b), (1, .ref (Q.o 0)), (2, .ref P.h0), (3, .ref qO), (4, .int xi)]) (hX : LST dC dI Q P qO kO A s.heap rest cells slots H locs) {Z : State → Prop} (kk : ∀ (cells slots : Nat) (H : Heap) (locs : List Loc), LST dC dI Q P qO kO A s.heap rest cells slots H locs → W p l e room_1 s m #[Value.ref b] below meth c H locs cells slots Z (F0 m 601 ls [])) : W p l e room_1 s m #[Value.ref b] below meth c H locs cells slots Z (F0 m 210 ls []) := by
  obtain ⟨hx, hb, hr9, hml, hown, hts, hSc, hbl, hlocks, hgv⟩ := id C0
  have hown : s.vm.findClass RL = some m.cls := hown
  have hbA : ¬ A b := fun h => absurd (hAr b h) (Nat.not_le.mpr hbl)
  have hts2 := lw_hts2 hts
  have hKc := hK.sub (tys' := cT Q) [0, 1, 2, 3, 4] rfl
  have hKr := hK.sub (tys' := rT P) [5, 6, 7] rfl
  have hN : 10000000000 ≤ 10000000000 := Nat.le_refl _
  have hN1 : 1000 ≤ 10000000000 := by decide
  obtain ⟨v1, ev1⟩ : ∃ v, v = xs (xi + 1).toNatClampNeg := ⟨_, rfl⟩
  obtain ⟨σ, ρ, fo, h, hc, hr, hL, hB, ht⟩ := hX
  refine lv_aload_n hx hb dL_law_210 rfl (lv_at hl 1 rfl) ?_
  refine lv_aload_n hx hb dL_law_211 rfl (lv_at hl 0 rfl) ?_
  refine lv_iload hx hb dL_law_212 (lv_at hl 4 rfl) ?_
  refine lv_iconst (v := 1) hx hb dL_law_214 (by decide) ?_
  refine lv_iadd hx hb dL_law_215 ?_
  refine lv_topi (fun z1 ez1 => ?_)
  refine va_sld hx hb hSc hbl hbA hL.2.2.1 (i := z1) (z_in (k := 1) hxi rfl hi (by decide) hL9 ez1) dL_law_216 ?_
  rw [ez1, ← ev1]
  obtain ⟨T, hfX, hc2⟩ : ok (f_X11_kind 10000000000 σ v1) (fun R => CIV h R.2) := z_kind hc v1
  have mo : CS.hs σ ≤ CS.hs T.2 := Mono.go hfX (m_X11_kind 10000000000 σ v1)
  have lt := hc2.lt
  refine lx_i hL hA (va_runV (As := [.int v1]) (rest := []) ⟨hx, hb, hml, hown, hts2⟩ (c_X11_kind l dC dI Q 10000000000 σ v1 T hfX) (cwV 1 hts2 hL_law_X11_kind_v29 rfl rfl rfl (by decide +kernel) ⟨Nat.le_of_ble_eq_true rfl, Nat.le_of_ble_eq_true rfl⟩) ⟨zPre.blind, va_recv hKc hL.c.1 (ci := 10) (q0 := 0) rfl rfl, cPre_go hZ hKc hL.c⟩ rfl rfl hl.1 rfl (lv_room (Nat.le_of_ble_eq_true rfl)) dL_law_217 (hB.ok mo lt)) (fun H locs hL => ?_)
  have hB := hB.go mo lt
  have hcX := hc
  have hc := hc2
  clear mo lt hc2
  generalize hgc : cells + (CS.hs T.2 - CS.hs σ) = cells1 at hB ⊢
  generalize hgs : slots + 17 * (CS.hs T.2 - CS.hs σ) = slots1 at hB ⊢
  clear hgc hgs
  generalize cells1 = cells at hB ⊢
  generalize slots1 = slots at hB ⊢
  refine lv_pop hx hb dL_law_220 rfl ?_
  refine lv_aload_n hx hb dL_law_221 rfl (lv_at hl 2 rfl) ?_
  refine lv_aload_n hx hb dL_law_222 rfl (lv_at hl 0 rfl) ?_
  refine lv_iload hx hb dL_law_223 (lv_at hl 4 rfl) ?_
  refine lv_iconst (v := 1) hx hb dL_law_225 (by decide) ?_
  refine lv_iadd hx hb dL_law_226 ?_
  refine lv_topi (fun z2 ez2 => ?_)
  refine va_sld hx hb hSc hbl hbA hL.2.2.1 (i := z2) (z_in (k := 1) hxi rfl hi (by decide) hL9 ez2) dL_law_227 ?_
  rw [ez2, ← ev1]
  obtain ⟨U, hfM, hr2⟩ : ok (f_X12_kind 10000000000 ρ v1) (fun R => RI R.2) := q_kind v1 hr
  refine lx_m hL hA (va_runV (As := [.int v1]) (rest := []) ⟨hx, hb, hml, hown, hts2⟩ (c_X12_kind l dC dI H.size P 10000000000 ρ v1 U hfM) (cwV 1 hts2 hL_law_X12_kind_v32 rfl rfl rfl (by decide +kernel) ⟨Nat.le_of_ble_eq_true rfl, Nat.le_of_ble_eq_true rfl⟩) ⟨zPre.blind, va_recv hKr hL.m.1 (ci := 11) (q0 := 0) rfl rfl, zPre.go hZ hL.m.1 hKr hL.m.2⟩ rfl rfl hl.1 rfl (lv_room (Nat.le_of_ble_eq_true rfl)) dL_law_228 hB.ok0) (fun n9 H locs hn9 hL => ?_)
  have hB := hB.hs hn9
  have hc := hc.hs hn9
  obtain ⟨ht2, ha⟩ := u_kind hr.1 ht v1 hfX hfM
  have ht := ht2.hs n9
  have hr := hr2
  clear hfM hfX ht2 hr2 hcX
  refine lv_pop hx hb dL_law_231 rfl ?_
  refine lv_goto (tgt := 601) hx hb dL_law_232 (by decide) ?_
  exact kk _ _ _ _ ⟨_, _, _, _, hc, hr, hL, hB, ht⟩
set_option maxHeartbeats 4000000 in
set_option maxRecDepth 100000 in
theorem L_c3 {p : Program} {e : Env} {s : State} {m : MethodId} {below : List Frame} {meth : Method} {c : Code} (l : Launch) {b L : Nat} {xs : Nat → Int32} {A : Nat → Prop} (C0 : lw_At p s m meth c b L xs) (hL9 : L < 2 ^ 31) (hA : ∀ q : Nat, s.heap.size ≤ q → A q) (hAr : ∀ q : Nat, A q → s.heap.size ≤ q) (dC : Nat → ClassId) (dI : Nat → Nat → Nat) (hZ : zAMB s) {Q : CQ} {P : RQ} {qO : Nat} {kO : ClassId} (hK : va_K (dC, dI) vwCl (cT Q ++ (rT P ++ [(kO, .long)])) s) {H : Heap} {locs : List Loc} {ls : Array Slot} {cells slots i rest : Nat} {xi : Int32} (hxi : xi = nI i) (hi : i + 6 ≤ L) (hl : lv_has ls 7 [(0, .ref b), (1, .ref (Q.o 0)), (2, .ref P.h0), (3, .ref qO), (4, .int xi)]) (hX : LST dC dI Q P qO kO A s.heap rest cells slots H locs) {Z : State → Prop} (kk : ∀ (cells slots : Nat) (H : Heap) (locs : List Loc), LST dC dI Q P qO kO A s.heap rest cells slots H locs → W p l e room_1 s m #[Value.ref b] below meth c H locs cells slots Z (F0 m 601 ls [])) : W p l e room_1 s m #[Value.ref b] below meth c H locs cells slots Z (F0 m 235 ls []) := by
  obtain ⟨hx, hb, hr9, hml, hown, hts, hSc, hbl, hlocks, hgv⟩ := id C0
  have hown : s.vm.findClass RL = some m.cls := hown
  have hbA : ¬ A b := fun h => absurd (hAr b h) (Nat.not_le.mpr hbl)
  have hts2 := lw_hts2 hts
  have hKc := hK.sub (tys' := cT Q) [0, 1, 2, 3, 4] rfl
  have hKr := hK.sub (tys' := rT P) [5, 6, 7] rfl
  have hN : 10000000000 ≤ 10000000000 := Nat.le_refl _
  have hN1 : 1000 ≤ 10000000000 := by decide
  obtain ⟨v1, ev1⟩ : ∃ v, v = xs (xi + 1).toNatClampNeg := ⟨_, rfl⟩
  obtain ⟨v2, ev2⟩ : ∃ v, v = xs (xi + 2).toNatClampNeg := ⟨_, rfl⟩
  obtain ⟨v3, ev3⟩ : ∃ v, v = xs (xi + 3).toNatClampNeg := ⟨_, rfl⟩
  obtain ⟨v4, ev4⟩ : ∃ v, v = xs (xi + 4).toNatClampNeg := ⟨_, rfl⟩
  obtain ⟨σ, ρ, fo, h, hc, hr, hL, hB, ht⟩ := hX
  refine lv_aload_n hx hb dL_law_235 rfl (lv_at hl 1 rfl) ?_
  refine lv_aload_n hx hb dL_law_236 rfl (lv_at hl 0 rfl) ?_
  refine lv_iload hx hb dL_law_237 (lv_at hl 4 rfl) ?_
  refine lv_iconst (v := 1) hx hb dL_law_239 (by decide) ?_
  refine lv_iadd hx hb dL_law_240 ?_
  refine lv_topi (fun z1 ez1 => ?_)
  refine va_sld hx hb hSc hbl hbA hL.2.2.1 (i := z1) (z_in (k := 1) hxi rfl hi (by decide) hL9 ez1) dL_law_241 ?_
  rw [ez1, ← ev1]
  refine lv_aload_n hx hb dL_law_242 rfl (lv_at hl 0 rfl) ?_
  refine lv_iload hx hb dL_law_243 (lv_at hl 4 rfl) ?_
  refine lv_iconst (v := 2) hx hb dL_law_245 (by decide) ?_
  refine lv_iadd hx hb dL_law_246 ?_
  refine lv_topi (fun z2 ez2 => ?_)
  refine va_sld hx hb hSc hbl hbA hL.2.2.1 (i := z2) (z_in (k := 2) hxi rfl hi (by decide) hL9 ez2) dL_law_247 ?_
  rw [ez2, ← ev2]
  refine lv_aload_n hx hb dL_law_248 rfl (lv_at hl 0 rfl) ?_
  refine lv_iload hx hb dL_law_249 (lv_at hl 4 rfl) ?_
  refine lv_iconst (v := 3) hx hb dL_law_251 (by decide) ?_
  refine lv_iadd hx hb dL_law_252 ?_
  refine lv_topi (fun z3 ez3 => ?_)
  refine va_sld hx hb hSc hbl hbA hL.2.2.1 (i := z3) (z_in (k := 3) hxi rfl hi (by decide) hL9 ez3) dL_law_253 ?_
  rw [ez3, ← ev3]
  refine lv_aload_n hx hb dL_law_254 rfl (lv_at hl 0 rfl) ?_
  refine lv_iload hx hb dL_law_255 (lv_at hl 4 rfl) ?_
  refine lv_iconst (v := 4) hx hb dL_law_257 (by decide) ?_
  refine lv_iadd hx hb dL_law_258 ?_
  refine lv_topi (fun z4 ez4 => ?_)
  refine va_sld hx hb hSc hbl hbA hL.2.2.1 (i := z4) (z_in (k := 4) hxi rfl hi (by decide) hL9 ez4) dL_law_259 ?_
  rw [ez4, ← ev4]
  obtain ⟨T, hfX, hc2⟩ : ok (f_X11_resource 10000000000 σ v1 v2 v3 v4) (fun R => CIV h R.2) := z_resource hc v1 v2 v3 v4
  have mo : CS.hs σ ≤ CS.hs T.2 := Mono.go hfX (m_X11_resource 10000000000 σ v1 v2 v3 v4)
  have lt := hc2.lt
  refine lx_i hL hA (va_runV (As := [.int v1, .int v2, .int v3, .int v4]) (rest := []) ⟨hx, hb, hml, hown, hts2⟩ (c_X11_resource l dC dI Q 10000000000 σ v1 v2 v3 v4 T hfX) (cwV 4 hts2 hL_law_X11_resource_v33 rfl rfl rfl (by decide +kernel) ⟨Nat.le_of_ble_eq_true rfl, Nat.le_of_ble_eq_true rfl⟩) ⟨zPre.blind, va_recv hKc hL.c.1 (ci := 10) (q0 := 0) rfl rfl, cPre_go hZ hKc hL.c⟩ rfl rfl hl.1 rfl (lv_room (Nat.le_of_ble_eq_true rfl)) dL_law_260 (hB.ok mo lt)) (fun H locs hL => ?_)
  have hB := hB.go mo lt
  have hcX := hc
  have hc := hc2
  clear mo lt hc2
  generalize hgc : cells + (CS.hs T.2 - CS.hs σ) = cells1 at hB ⊢
  generalize hgs : slots + 17 * (CS.hs T.2 - CS.hs σ) = slots1 at hB ⊢
  clear hgc hgs
  generalize cells1 = cells at hB ⊢
  generalize slots1 = slots at hB ⊢
  refine lv_pop hx hb dL_law_263 rfl ?_
  refine lv_aload_n hx hb dL_law_264 rfl (lv_at hl 2 rfl) ?_
  refine lv_aload_n hx hb dL_law_265 rfl (lv_at hl 0 rfl) ?_
  refine lv_iload hx hb dL_law_266 (lv_at hl 4 rfl) ?_
  refine lv_iconst (v := 1) hx hb dL_law_268 (by decide) ?_
  refine lv_iadd hx hb dL_law_269 ?_
  refine lv_topi (fun z5 ez5 => ?_)
  refine va_sld hx hb hSc hbl hbA hL.2.2.1 (i := z5) (z_in (k := 1) hxi rfl hi (by decide) hL9 ez5) dL_law_270 ?_
  rw [ez5, ← ev1]
  refine lv_aload_n hx hb dL_law_271 rfl (lv_at hl 0 rfl) ?_
  refine lv_iload hx hb dL_law_272 (lv_at hl 4 rfl) ?_
  refine lv_iconst (v := 2) hx hb dL_law_274 (by decide) ?_
  refine lv_iadd hx hb dL_law_275 ?_
  refine lv_topi (fun z6 ez6 => ?_)
  refine va_sld hx hb hSc hbl hbA hL.2.2.1 (i := z6) (z_in (k := 2) hxi rfl hi (by decide) hL9 ez6) dL_law_276 ?_
  rw [ez6, ← ev2]
  refine lv_aload_n hx hb dL_law_277 rfl (lv_at hl 0 rfl) ?_
  refine lv_iload hx hb dL_law_278 (lv_at hl 4 rfl) ?_
  refine lv_iconst (v := 3) hx hb dL_law_280 (by decide) ?_
  refine lv_iadd hx hb dL_law_281 ?_
  refine lv_topi (fun z7 ez7 => ?_)
  refine va_sld hx hb hSc hbl hbA hL.2.2.1 (i := z7) (z_in (k := 3) hxi rfl hi (by decide) hL9 ez7) dL_law_282 ?_
  rw [ez7, ← ev3]
  refine lv_aload_n hx hb dL_law_283 rfl (lv_at hl 0 rfl) ?_
  refine lv_iload hx hb dL_law_284 (lv_at hl 4 rfl) ?_
  refine lv_iconst (v := 4) hx hb dL_law_286 (by decide) ?_
  refine lv_iadd hx hb dL_law_287 ?_
  refine lv_topi (fun z8 ez8 => ?_)
  refine va_sld hx hb hSc hbl hbA hL.2.2.1 (i := z8) (z_in (k := 4) hxi rfl hi (by decide) hL9 ez8) dL_law_288 ?_
  rw [ez8, ← ev4]
  obtain ⟨U, hfM, hr2⟩ : ok (f_X12_resource 10000000000 ρ v1 v2 v3 v4) (fun R => RI R.2) := q_resource v1 v2 v3 v4 hr
  refine lx_m hL hA (va_runV (As := [.int v1, .int v2, .int v3, .int v4]) (rest := []) ⟨hx, hb, hml, hown, hts2⟩ (c_X12_resource l dC dI H.size P 10000000000 ρ v1 v2 v3 v4 U hfM) (cwV 4 hts2 hL_law_X12_resource_v37 rfl rfl rfl (by decide +kernel) ⟨Nat.le_of_ble_eq_true rfl, Nat.le_of_ble_eq_true rfl⟩) ⟨zPre.blind, va_recv hKr hL.m.1 (ci := 11) (q0 := 0) rfl rfl, zPre.go hZ hL.m.1 hKr hL.m.2⟩ rfl rfl hl.1 rfl (lv_room (Nat.le_of_ble_eq_true rfl)) dL_law_289 hB.ok0) (fun n9 H locs hn9 hL => ?_)
  have hB := hB.hs hn9
  have hc := hc.hs hn9
  obtain ⟨ht2, ha⟩ := u_resource hr.1 ht v1 v2 v3 v4 hfX hfM
  have ht := ht2.hs n9
  have hr := hr2
  clear hfM hfX ht2 hr2 hcX
  refine lv_pop hx hb dL_law_292 rfl ?_
  refine lv_goto (tgt := 601) hx hb dL_law_293 (by decide) ?_
  exact kk _ _ _ _ ⟨_, _, _, _, hc, hr, hL, hB, ht⟩
set_option maxHeartbeats 4000000 in
set_option maxRecDepth 100000 in
theorem L_c4 {p : Program} {e : Env} {s : State} {m : MethodId} {below : List Frame} {meth : Method} {c : Code} (l : Launch) {b L : Nat} {xs : Nat → Int32} {A : Nat → Prop} (C0 : lw_At p s m meth c b L xs) (hL9 : L < 2 ^ 31) (hA : ∀ q : Nat, s.heap.size ≤ q → A q) (hAr : ∀ q : Nat, A q → s.heap.size ≤ q) (dC : Nat → ClassId) (dI : Nat → Nat → Nat) (hZ : zAMB s) {Q : CQ} {P : RQ} {qO : Nat} {kO : ClassId} (hK : va_K (dC, dI) vwCl (cT Q ++ (rT P ++ [(kO, .long)])) s) {H : Heap} {locs : List Loc} {ls : Array Slot} {cells slots i rest : Nat} {xi : Int32} (hxi : xi = nI i) (hi : i + 6 ≤ L) (hl : lv_has ls 7 [(0, .ref b), (1, .ref (Q.o 0)), (2, .ref P.h0), (3, .ref qO), (4, .int xi)]) (hX : LST dC dI Q P qO kO A s.heap rest cells slots H locs) {Z : State → Prop} (kk : ∀ (cells slots : Nat) (H : Heap) (locs : List Loc), LST dC dI Q P qO kO A s.heap rest cells slots H locs → W p l e room_1 s m #[Value.ref b] below meth c H locs cells slots Z (F0 m 601 ls [])) : W p l e room_1 s m #[Value.ref b] below meth c H locs cells slots Z (F0 m 296 ls []) := by
  obtain ⟨hx, hb, hr9, hml, hown, hts, hSc, hbl, hlocks, hgv⟩ := id C0
  have hown : s.vm.findClass RL = some m.cls := hown
  have hbA : ¬ A b := fun h => absurd (hAr b h) (Nat.not_le.mpr hbl)
  have hts2 := lw_hts2 hts
  have hKc := hK.sub (tys' := cT Q) [0, 1, 2, 3, 4] rfl
  have hKr := hK.sub (tys' := rT P) [5, 6, 7] rfl
  have hN : 10000000000 ≤ 10000000000 := Nat.le_refl _
  have hN1 : 1000 ≤ 10000000000 := by decide
  obtain ⟨v1, ev1⟩ : ∃ v, v = xs (xi + 1).toNatClampNeg := ⟨_, rfl⟩
  obtain ⟨σ, ρ, fo, h, hc, hr, hL, hB, ht⟩ := hX
  refine lv_aload_n hx hb dL_law_296 rfl (lv_at hl 1 rfl) ?_
  refine lv_aload_n hx hb dL_law_297 rfl (lv_at hl 0 rfl) ?_
  refine lv_iload hx hb dL_law_298 (lv_at hl 4 rfl) ?_
  refine lv_iconst (v := 1) hx hb dL_law_300 (by decide) ?_
  refine lv_iadd hx hb dL_law_301 ?_
  refine lv_topi (fun z1 ez1 => ?_)
  refine va_sld hx hb hSc hbl hbA hL.2.2.1 (i := z1) (z_in (k := 1) hxi rfl hi (by decide) hL9 ez1) dL_law_302 ?_
  rw [ez1, ← ev1]
  refine lv_if_eq (tgt := 310) hx hb dL_law_303 (by decide) (fun hz => ?_) (fun hz => ?_)
  ·
    refine lv_iconst (v := 0) hx hb dL_law_310 (by decide) ?_
    have hbo : (0 : Int32) = 0 ∨ (0 : Int32) = 1 := Or.inl rfl
    obtain ⟨T, hfX, hc2⟩ : ok (f_X11_asserts 10000000000 σ 0) (fun R => CIV h R.2) := z_asserts hc 0 hbo
    have mo : CS.hs σ ≤ CS.hs T.2 := Mono.go hfX (m_X11_asserts 10000000000 σ 0)
    have lt := hc2.lt
    refine lx_i hL hA (va_runV (As := [.int 0]) (rest := []) ⟨hx, hb, hml, hown, hts2⟩ (c_X11_asserts l dC dI Q 10000000000 σ 0 T hfX) (cwV 1 hts2 hL_law_X11_asserts_v38 rfl rfl rfl (by decide +kernel) ⟨Nat.le_of_ble_eq_true rfl, Nat.le_of_ble_eq_true rfl⟩) ⟨zPre.blind, va_recv hKc hL.c.1 (ci := 10) (q0 := 0) rfl rfl, cPre_go hZ hKc hL.c⟩ rfl rfl hl.1 rfl (lv_room (Nat.le_of_ble_eq_true rfl)) dL_law_311 (hB.ok mo lt)) (fun H locs hL => ?_)
    have hB := hB.go mo lt
    have hcX := hc
    have hc := hc2
    clear mo lt hc2
    generalize hgc : cells + (CS.hs T.2 - CS.hs σ) = cells1 at hB ⊢
    generalize hgs : slots + 17 * (CS.hs T.2 - CS.hs σ) = slots1 at hB ⊢
    clear hgc hgs
    generalize cells1 = cells at hB ⊢
    generalize slots1 = slots at hB ⊢
    refine lv_pop hx hb dL_law_314 rfl ?_
    refine lv_aload_n hx hb dL_law_315 rfl (lv_at hl 2 rfl) ?_
    refine lv_aload_n hx hb dL_law_316 rfl (lv_at hl 0 rfl) ?_
    refine lv_iload hx hb dL_law_317 (lv_at hl 4 rfl) ?_
    refine lv_iconst (v := 1) hx hb dL_law_319 (by decide) ?_
    refine lv_iadd hx hb dL_law_320 ?_
    refine lv_topi (fun z2 ez2 => ?_)
    refine va_sld hx hb hSc hbl hbA hL.2.2.1 (i := z2) (z_in (k := 1) hxi rfl hi (by decide) hL9 ez2) dL_law_321 ?_
    rw [ez2, ← ev1]
    refine lv_if_eq (tgt := 329) hx hb dL_law_322 (by decide) (fun _ => ?_) (fun c9 => absurd hz c9)
    refine lv_iconst (v := 0) hx hb dL_law_329 (by decide) ?_
    obtain ⟨U, hfM, hr2⟩ : ok (f_X12_asserts 10000000000 ρ 0) (fun R => RI R.2) := q_asserts 0 hbo hr
    refine lx_m hL hA (va_runV (As := [.int 0]) (rest := []) ⟨hx, hb, hml, hown, hts2⟩ (c_X12_asserts l dC dI H.size P 10000000000 ρ 0 U hfM) (cwV 1 hts2 hL_law_X12_asserts_v42 rfl rfl rfl (by decide +kernel) ⟨Nat.le_of_ble_eq_true rfl, Nat.le_of_ble_eq_true rfl⟩) ⟨zPre.blind, va_recv hKr hL.m.1 (ci := 11) (q0 := 0) rfl rfl, zPre.go hZ hL.m.1 hKr hL.m.2⟩ rfl rfl hl.1 rfl (lv_room (Nat.le_of_ble_eq_true rfl)) dL_law_330 hB.ok0) (fun n9 H locs hn9 hL => ?_)
    have hB := hB.hs hn9
    have hc := hc.hs hn9
    obtain ⟨ht2, ha⟩ := u_asserts ht 0 hfX hfM
    have ht := ht2.hs n9
    have hr := hr2
    clear hfM hfX ht2 hr2 hcX
    refine lv_pop hx hb dL_law_333 rfl ?_
    refine lv_goto (tgt := 601) hx hb dL_law_334 (by decide) ?_
    exact kk _ _ _ _ ⟨_, _, _, _, hc, hr, hL, hB, ht⟩
  ·
    refine lv_iconst (v := 1) hx hb dL_law_306 (by decide) ?_
    refine lv_goto (tgt := 311) hx hb dL_law_307 (by decide) ?_
    have hbo : (1 : Int32) = 0 ∨ (1 : Int32) = 1 := Or.inr rfl
    obtain ⟨T, hfX, hc2⟩ : ok (f_X11_asserts 10000000000 σ 1) (fun R => CIV h R.2) := z_asserts hc 1 hbo
    have mo : CS.hs σ ≤ CS.hs T.2 := Mono.go hfX (m_X11_asserts 10000000000 σ 1)
    have lt := hc2.lt
    refine lx_i hL hA (va_runV (As := [.int 1]) (rest := []) ⟨hx, hb, hml, hown, hts2⟩ (c_X11_asserts l dC dI Q 10000000000 σ 1 T hfX) (cwV 1 hts2 hL_law_X11_asserts_v38 rfl rfl rfl (by decide +kernel) ⟨Nat.le_of_ble_eq_true rfl, Nat.le_of_ble_eq_true rfl⟩) ⟨zPre.blind, va_recv hKc hL.c.1 (ci := 10) (q0 := 0) rfl rfl, cPre_go hZ hKc hL.c⟩ rfl rfl hl.1 rfl (lv_room (Nat.le_of_ble_eq_true rfl)) dL_law_311 (hB.ok mo lt)) (fun H locs hL => ?_)
    have hB := hB.go mo lt
    have hcX := hc
    have hc := hc2
    clear mo lt hc2
    generalize hgc : cells + (CS.hs T.2 - CS.hs σ) = cells1 at hB ⊢
    generalize hgs : slots + 17 * (CS.hs T.2 - CS.hs σ) = slots1 at hB ⊢
    clear hgc hgs
    generalize cells1 = cells at hB ⊢
    generalize slots1 = slots at hB ⊢
    refine lv_pop hx hb dL_law_314 rfl ?_
    refine lv_aload_n hx hb dL_law_315 rfl (lv_at hl 2 rfl) ?_
    refine lv_aload_n hx hb dL_law_316 rfl (lv_at hl 0 rfl) ?_
    refine lv_iload hx hb dL_law_317 (lv_at hl 4 rfl) ?_
    refine lv_iconst (v := 1) hx hb dL_law_319 (by decide) ?_
    refine lv_iadd hx hb dL_law_320 ?_
    refine lv_topi (fun z3 ez3 => ?_)
    refine va_sld hx hb hSc hbl hbA hL.2.2.1 (i := z3) (z_in (k := 1) hxi rfl hi (by decide) hL9 ez3) dL_law_321 ?_
    rw [ez3, ← ev1]
    refine lv_if_eq (tgt := 329) hx hb dL_law_322 (by decide) (fun c9 => absurd c9 hz) (fun _ => ?_)
    refine lv_iconst (v := 1) hx hb dL_law_325 (by decide) ?_
    refine lv_goto (tgt := 330) hx hb dL_law_326 (by decide) ?_
    obtain ⟨U, hfM, hr2⟩ : ok (f_X12_asserts 10000000000 ρ 1) (fun R => RI R.2) := q_asserts 1 hbo hr
    refine lx_m hL hA (va_runV (As := [.int 1]) (rest := []) ⟨hx, hb, hml, hown, hts2⟩ (c_X12_asserts l dC dI H.size P 10000000000 ρ 1 U hfM) (cwV 1 hts2 hL_law_X12_asserts_v42 rfl rfl rfl (by decide +kernel) ⟨Nat.le_of_ble_eq_true rfl, Nat.le_of_ble_eq_true rfl⟩) ⟨zPre.blind, va_recv hKr hL.m.1 (ci := 11) (q0 := 0) rfl rfl, zPre.go hZ hL.m.1 hKr hL.m.2⟩ rfl rfl hl.1 rfl (lv_room (Nat.le_of_ble_eq_true rfl)) dL_law_330 hB.ok0) (fun n9 H locs hn9 hL => ?_)
    have hB := hB.hs hn9
    have hc := hc.hs hn9
    obtain ⟨ht2, ha⟩ := u_asserts ht 1 hfX hfM
    have ht := ht2.hs n9
    have hr := hr2
    clear hfM hfX ht2 hr2 hcX
    refine lv_pop hx hb dL_law_333 rfl ?_
    refine lv_goto (tgt := 601) hx hb dL_law_334 (by decide) ?_
    exact kk _ _ _ _ ⟨_, _, _, _, hc, hr, hL, hB, ht⟩
set_option maxHeartbeats 4000000 in
set_option maxRecDepth 100000 in
theorem L_c5 {p : Program} {e : Env} {s : State} {m : MethodId} {below : List Frame} {meth : Method} {c : Code} (l : Launch) {b L : Nat} {xs : Nat → Int32} {A : Nat → Prop} (C0 : lw_At p s m meth c b L xs) (hL9 : L < 2 ^ 31) (hA : ∀ q : Nat, s.heap.size ≤ q → A q) (hAr : ∀ q : Nat, A q → s.heap.size ≤ q) (dC : Nat → ClassId) (dI : Nat → Nat → Nat) (hZ : zAMB s) {Q : CQ} {P : RQ} {qO : Nat} {kO : ClassId} (hK : va_K (dC, dI) vwCl (cT Q ++ (rT P ++ [(kO, .long)])) s) {H : Heap} {locs : List Loc} {ls : Array Slot} {cells slots i rest : Nat} {xi : Int32} (hxi : xi = nI i) (hi : i + 6 ≤ L) (hl : lv_has ls 7 [(0, .ref b), (1, .ref (Q.o 0)), (2, .ref P.h0), (3, .ref qO), (4, .int xi)]) (hX : LST dC dI Q P qO kO A s.heap rest cells slots H locs) {Z : State → Prop} (kk : ∀ (cells slots : Nat) (H : Heap) (locs : List Loc), LST dC dI Q P qO kO A s.heap rest cells slots H locs → W p l e room_1 s m #[Value.ref b] below meth c H locs cells slots Z (F0 m 601 ls [])) : W p l e room_1 s m #[Value.ref b] below meth c H locs cells slots Z (F0 m 337 ls []) := by
  obtain ⟨hx, hb, hr9, hml, hown, hts, hSc, hbl, hlocks, hgv⟩ := id C0
  have hown : s.vm.findClass RL = some m.cls := hown
  have hbA : ¬ A b := fun h => absurd (hAr b h) (Nat.not_le.mpr hbl)
  have hts2 := lw_hts2 hts
  have hKc := hK.sub (tys' := cT Q) [0, 1, 2, 3, 4] rfl
  have hKr := hK.sub (tys' := rT P) [5, 6, 7] rfl
  have hN : 10000000000 ≤ 10000000000 := Nat.le_refl _
  have hN1 : 1000 ≤ 10000000000 := by decide
  obtain ⟨σ, ρ, fo, h, hc, hr, hL, hB, ht⟩ := hX
  refine lv_aload_n hx hb dL_law_337 rfl (lv_at hl 1 rfl) ?_
  obtain ⟨T, hfX, hc2⟩ : ok (f_X11_read 10000000000 (fEE 10000000000 23).1 (fEE 10000000000 23).2 σ ) (fun R => CIV h R.2) := z_read hN hc
  have mo : CS.hs σ ≤ CS.hs T.2 := Mono.go hfX (m_X11_read 10000000000 (fEE 10000000000 23).1 (fEE 10000000000 23).2 (mEE 10000000000 23).1 (mEE 10000000000 23).2 σ)
  have lt := hc2.lt
  refine lx_i hL hA (va_runV (As := []) (rest := []) ⟨hx, hb, hml, hown, hts2⟩ (c_X11_read l dC dI Q 10000000000 23 (fEE 10000000000 23).1 (fEE 10000000000 23).2 (cEE l dC dI Q 10000000000 23).1 (cEE l dC dI Q 10000000000 23).2 (mEE 10000000000 23).1 (mEE 10000000000 23).2 σ T hfX) (cwV 0 hts2 hL_law_X11_read_v43 rfl rfl rfl (by decide +kernel) ⟨Nat.le_of_ble_eq_true rfl, Nat.le_of_ble_eq_true rfl⟩) ⟨zPre.blind, va_recv hKc hL.c.1 (ci := 10) (q0 := 0) rfl rfl, cPre_go hZ hKc hL.c⟩ rfl rfl hl.1 rfl (lv_room (Nat.le_of_ble_eq_true rfl)) dL_law_338 (hB.ok mo lt)) (fun H locs hL => ?_)
  have hB := hB.go mo lt
  have hcX := hc
  have hc := hc2
  clear mo lt hc2
  generalize hgc : cells + (CS.hs T.2 - CS.hs σ) = cells1 at hB ⊢
  generalize hgs : slots + 17 * (CS.hs T.2 - CS.hs σ) = slots1 at hB ⊢
  clear hgc hgs
  generalize cells1 = cells at hB ⊢
  generalize slots1 = slots at hB ⊢
  refine lv_pop hx hb dL_law_341 rfl ?_
  refine lv_aload_n hx hb dL_law_342 rfl (lv_at hl 2 rfl) ?_
  obtain ⟨U, hfM, hr2⟩ : ok (f_X12_read 10000000000 ρ ) (fun R => RI R.2) := p_read (by decide) hr
  refine lx_m hL hA (va_runV (As := []) (rest := []) ⟨hx, hb, hml, hown, hts2⟩ (c_X12_read l dC dI H.size P 10000000000 ρ  U hfM) (cwV 0 hts2 hL_law_X12_read_v47 rfl rfl rfl (by decide +kernel) ⟨Nat.le_of_ble_eq_true rfl, Nat.le_of_ble_eq_true rfl⟩) ⟨zPre.blind, va_recv hKr hL.m.1 (ci := 11) (q0 := 0) rfl rfl, zPre.go hZ hL.m.1 hKr hL.m.2⟩ rfl rfl hl.1 rfl (lv_room (Nat.le_of_ble_eq_true rfl)) dL_law_343 hB.ok0) (fun n9 H locs hn9 hL => ?_)
  have hB := hB.hs hn9
  have hc := hc.hs hn9
  have ht2 := u_read (by decide) hcX hr ht hfX hfM
  have ht := ht2.hs n9
  have hr := hr2
  clear hfM hfX ht2 hr2 hcX
  refine lv_pop hx hb dL_law_346 rfl ?_
  refine lv_goto (tgt := 601) hx hb dL_law_347 (by decide) ?_
  exact kk _ _ _ _ ⟨_, _, _, _, hc, hr, hL, hB, ht⟩
set_option maxHeartbeats 4000000 in
set_option maxRecDepth 100000 in
theorem L_c6 {p : Program} {e : Env} {s : State} {m : MethodId} {below : List Frame} {meth : Method} {c : Code} (l : Launch) {b L : Nat} {xs : Nat → Int32} {A : Nat → Prop} (C0 : lw_At p s m meth c b L xs) (hL9 : L < 2 ^ 31) (hA : ∀ q : Nat, s.heap.size ≤ q → A q) (hAr : ∀ q : Nat, A q → s.heap.size ≤ q) (dC : Nat → ClassId) (dI : Nat → Nat → Nat) (hZ : zAMB s) {Q : CQ} {P : RQ} {qO : Nat} {kO : ClassId} (hK : va_K (dC, dI) vwCl (cT Q ++ (rT P ++ [(kO, .long)])) s) {H : Heap} {locs : List Loc} {ls : Array Slot} {cells slots i rest : Nat} {xi : Int32} (hxi : xi = nI i) (hi : i + 6 ≤ L) (hl : lv_has ls 7 [(0, .ref b), (1, .ref (Q.o 0)), (2, .ref P.h0), (3, .ref qO), (4, .int xi)]) (hX : LST dC dI Q P qO kO A s.heap rest cells slots H locs) {Z : State → Prop} (kk : ∀ (cells slots : Nat) (H : Heap) (locs : List Loc), LST dC dI Q P qO kO A s.heap rest cells slots H locs → W p l e room_1 s m #[Value.ref b] below meth c H locs cells slots Z (F0 m 601 ls [])) : W p l e room_1 s m #[Value.ref b] below meth c H locs cells slots Z (F0 m 350 ls []) := by
  obtain ⟨hx, hb, hr9, hml, hown, hts, hSc, hbl, hlocks, hgv⟩ := id C0
  have hown : s.vm.findClass RL = some m.cls := hown
  have hbA : ¬ A b := fun h => absurd (hAr b h) (Nat.not_le.mpr hbl)
  have hts2 := lw_hts2 hts
  have hKc := hK.sub (tys' := cT Q) [0, 1, 2, 3, 4] rfl
  have hKr := hK.sub (tys' := rT P) [5, 6, 7] rfl
  have hN : 10000000000 ≤ 10000000000 := Nat.le_refl _
  have hN1 : 1000 ≤ 10000000000 := by decide
  obtain ⟨σ, ρ, fo, h, hc, hr, hL, hB, ht⟩ := hX
  refine lv_aload_n hx hb dL_law_350 rfl (lv_at hl 1 rfl) ?_
  obtain ⟨T, hfX, hc2⟩ : ok (f_X11_fault 10000000000 σ ) (fun R => CIV h R.2) := z_fault hc
  have mo : CS.hs σ ≤ CS.hs T.2 := Mono.go hfX (m_X11_fault 10000000000 σ )
  have lt := hc2.lt
  refine lx_i hL hA (va_runV (As := []) (rest := []) ⟨hx, hb, hml, hown, hts2⟩ (c_X11_fault l dC dI Q 10000000000 σ  T hfX) (cwV 0 hts2 hL_law_X11_fault_v48 rfl rfl rfl (by decide +kernel) ⟨Nat.le_of_ble_eq_true rfl, Nat.le_of_ble_eq_true rfl⟩) ⟨zPre.blind, va_recv hKc hL.c.1 (ci := 10) (q0 := 0) rfl rfl, cPre_go hZ hKc hL.c⟩ rfl rfl hl.1 rfl (lv_room (Nat.le_of_ble_eq_true rfl)) dL_law_351 (hB.ok mo lt)) (fun H locs hL => ?_)
  have hB := hB.go mo lt
  have hcX := hc
  have hc := hc2
  clear mo lt hc2
  generalize hgc : cells + (CS.hs T.2 - CS.hs σ) = cells1 at hB ⊢
  generalize hgs : slots + 17 * (CS.hs T.2 - CS.hs σ) = slots1 at hB ⊢
  clear hgc hgs
  generalize cells1 = cells at hB ⊢
  generalize slots1 = slots at hB ⊢
  refine lv_pop hx hb dL_law_354 rfl ?_
  refine lv_aload_n hx hb dL_law_355 rfl (lv_at hl 2 rfl) ?_
  obtain ⟨U, hfM, hr2⟩ : ok (f_X12_fault 10000000000 ρ ) (fun R => RI R.2) := q_fault hr
  refine lx_m hL hA (va_runV (As := []) (rest := []) ⟨hx, hb, hml, hown, hts2⟩ (c_X12_fault l dC dI H.size P 10000000000 ρ  U hfM) (cwV 0 hts2 hL_law_X12_fault_v51 rfl rfl rfl (by decide +kernel) ⟨Nat.le_of_ble_eq_true rfl, Nat.le_of_ble_eq_true rfl⟩) ⟨zPre.blind, va_recv hKr hL.m.1 (ci := 11) (q0 := 0) rfl rfl, zPre.go hZ hL.m.1 hKr hL.m.2⟩ rfl rfl hl.1 rfl (lv_room (Nat.le_of_ble_eq_true rfl)) dL_law_356 hB.ok0) (fun n9 H locs hn9 hL => ?_)
  have hB := hB.hs hn9
  have hc := hc.hs hn9
  have ht2 := u_fault ht hfX hfM
  have ht := ht2.hs n9
  have hr := hr2
  clear hfM hfX ht2 hr2 hcX
  refine lv_pop hx hb dL_law_359 rfl ?_
  refine lv_goto (tgt := 601) hx hb dL_law_360 (by decide) ?_
  exact kk _ _ _ _ ⟨_, _, _, _, hc, hr, hL, hB, ht⟩
set_option maxHeartbeats 4000000 in
set_option maxRecDepth 100000 in
theorem L_c7 {p : Program} {e : Env} {s : State} {m : MethodId} {below : List Frame} {meth : Method} {c : Code} (l : Launch) {b L : Nat} {xs : Nat → Int32} {A : Nat → Prop} (C0 : lw_At p s m meth c b L xs) (hL9 : L < 2 ^ 31) (hA : ∀ q : Nat, s.heap.size ≤ q → A q) (hAr : ∀ q : Nat, A q → s.heap.size ≤ q) (dC : Nat → ClassId) (dI : Nat → Nat → Nat) (hZ : zAMB s) {Q : CQ} {P : RQ} {qO : Nat} {kO : ClassId} (hK : va_K (dC, dI) vwCl (cT Q ++ (rT P ++ [(kO, .long)])) s) {H : Heap} {locs : List Loc} {ls : Array Slot} {cells slots i rest : Nat} {xi : Int32} (hxi : xi = nI i) (hi : i + 6 ≤ L) (hl : lv_has ls 7 [(0, .ref b), (1, .ref (Q.o 0)), (2, .ref P.h0), (3, .ref qO), (4, .int xi)]) (hX : LST dC dI Q P qO kO A s.heap rest cells slots H locs) {Z : State → Prop} (kk : ∀ (cells slots : Nat) (H : Heap) (locs : List Loc), LST dC dI Q P qO kO A s.heap rest cells slots H locs → W p l e room_1 s m #[Value.ref b] below meth c H locs cells slots Z (F0 m 601 ls [])) : W p l e room_1 s m #[Value.ref b] below meth c H locs cells slots Z (F0 m 363 ls []) := by
  obtain ⟨hx, hb, hr9, hml, hown, hts, hSc, hbl, hlocks, hgv⟩ := id C0
  have hown : s.vm.findClass RL = some m.cls := hown
  have hbA : ¬ A b := fun h => absurd (hAr b h) (Nat.not_le.mpr hbl)
  have hts2 := lw_hts2 hts
  have hKc := hK.sub (tys' := cT Q) [0, 1, 2, 3, 4] rfl
  have hKr := hK.sub (tys' := rT P) [5, 6, 7] rfl
  have hN : 10000000000 ≤ 10000000000 := Nat.le_refl _
  have hN1 : 1000 ≤ 10000000000 := by decide
  obtain ⟨v1, ev1⟩ : ∃ v, v = xs (xi + 1).toNatClampNeg := ⟨_, rfl⟩
  obtain ⟨σ, ρ, fo, h, hc, hr, hL, hB, ht⟩ := hX
  refine lv_aload_n hx hb dL_law_363 rfl (lv_at hl 1 rfl) ?_
  refine lv_aload_n hx hb dL_law_364 rfl (lv_at hl 0 rfl) ?_
  refine lv_iload hx hb dL_law_365 (lv_at hl 4 rfl) ?_
  refine lv_iconst (v := 1) hx hb dL_law_367 (by decide) ?_
  refine lv_iadd hx hb dL_law_368 ?_
  refine lv_topi (fun z1 ez1 => ?_)
  refine va_sld hx hb hSc hbl hbA hL.2.2.1 (i := z1) (z_in (k := 1) hxi rfl hi (by decide) hL9 ez1) dL_law_369 ?_
  rw [ez1, ← ev1]
  obtain ⟨T, hfX, hc2⟩ : ok (f_X11_program 10000000000 σ v1) (fun R => CIV h R.2) := z_program hc v1
  have mo : CS.hs σ ≤ CS.hs T.2 := Mono.go hfX (m_X11_program 10000000000 σ v1)
  have lt := hc2.lt
  refine lx_i hL hA (va_runV (As := [.int v1]) (rest := []) ⟨hx, hb, hml, hown, hts2⟩ (c_X11_program l dC dI Q 10000000000 σ v1 T hfX) (cwV 1 hts2 hL_law_X11_program_v52 rfl rfl rfl (by decide +kernel) ⟨Nat.le_of_ble_eq_true rfl, Nat.le_of_ble_eq_true rfl⟩) ⟨zPre.blind, va_recv hKc hL.c.1 (ci := 10) (q0 := 0) rfl rfl, cPre_go hZ hKc hL.c⟩ rfl rfl hl.1 rfl (lv_room (Nat.le_of_ble_eq_true rfl)) dL_law_370 (hB.ok mo lt)) (fun H locs hL => ?_)
  have hB := hB.go mo lt
  have hcX := hc
  have hc := hc2
  clear mo lt hc2
  generalize hgc : cells + (CS.hs T.2 - CS.hs σ) = cells1 at hB ⊢
  generalize hgs : slots + 17 * (CS.hs T.2 - CS.hs σ) = slots1 at hB ⊢
  clear hgc hgs
  generalize cells1 = cells at hB ⊢
  generalize slots1 = slots at hB ⊢
  refine lv_pop hx hb dL_law_373 rfl ?_
  refine lv_aload_n hx hb dL_law_374 rfl (lv_at hl 2 rfl) ?_
  refine lv_aload_n hx hb dL_law_375 rfl (lv_at hl 0 rfl) ?_
  refine lv_iload hx hb dL_law_376 (lv_at hl 4 rfl) ?_
  refine lv_iconst (v := 1) hx hb dL_law_378 (by decide) ?_
  refine lv_iadd hx hb dL_law_379 ?_
  refine lv_topi (fun z2 ez2 => ?_)
  refine va_sld hx hb hSc hbl hbA hL.2.2.1 (i := z2) (z_in (k := 1) hxi rfl hi (by decide) hL9 ez2) dL_law_380 ?_
  rw [ez2, ← ev1]
  obtain ⟨U, hfM, hr2⟩ : ok (f_X12_program 10000000000 ρ v1) (fun R => RI R.2) := q_program v1 hr
  refine lx_m hL hA (va_runV (As := [.int v1]) (rest := []) ⟨hx, hb, hml, hown, hts2⟩ (c_X12_program l dC dI H.size P 10000000000 ρ v1 U hfM) (cwV 1 hts2 hL_law_X12_program_v55 rfl rfl rfl (by decide +kernel) ⟨Nat.le_of_ble_eq_true rfl, Nat.le_of_ble_eq_true rfl⟩) ⟨zPre.blind, va_recv hKr hL.m.1 (ci := 11) (q0 := 0) rfl rfl, zPre.go hZ hL.m.1 hKr hL.m.2⟩ rfl rfl hl.1 rfl (lv_room (Nat.le_of_ble_eq_true rfl)) dL_law_381 hB.ok0) (fun n9 H locs hn9 hL => ?_)
  have hB := hB.hs hn9
  have hc := hc.hs hn9
  obtain ⟨ht2, ha⟩ := u_program ht v1 hfX hfM
  have ht := ht2.hs n9
  have hr := hr2
  clear hfM hfX ht2 hr2 hcX
  refine lv_pop hx hb dL_law_384 rfl ?_
  refine lv_goto (tgt := 601) hx hb dL_law_385 (by decide) ?_
  exact kk _ _ _ _ ⟨_, _, _, _, hc, hr, hL, hB, ht⟩
set_option maxHeartbeats 4000000 in
set_option maxRecDepth 100000 in
theorem L_c8 {p : Program} {e : Env} {s : State} {m : MethodId} {below : List Frame} {meth : Method} {c : Code} (l : Launch) {b L : Nat} {xs : Nat → Int32} {A : Nat → Prop} (C0 : lw_At p s m meth c b L xs) (hL9 : L < 2 ^ 31) (hA : ∀ q : Nat, s.heap.size ≤ q → A q) (hAr : ∀ q : Nat, A q → s.heap.size ≤ q) (dC : Nat → ClassId) (dI : Nat → Nat → Nat) (hZ : zAMB s) {Q : CQ} {P : RQ} {qO : Nat} {kO : ClassId} (hK : va_K (dC, dI) vwCl (cT Q ++ (rT P ++ [(kO, .long)])) s) {H : Heap} {locs : List Loc} {ls : Array Slot} {cells slots i rest : Nat} {xi : Int32} (hxi : xi = nI i) (hi : i + 6 ≤ L) (hl : lv_has ls 7 [(0, .ref b), (1, .ref (Q.o 0)), (2, .ref P.h0), (3, .ref qO), (4, .int xi)]) (hX : LST dC dI Q P qO kO A s.heap rest cells slots H locs) {Z : State → Prop} (kk : ∀ (cells slots : Nat) (H : Heap) (locs : List Loc), LST dC dI Q P qO kO A s.heap rest cells slots H locs → W p l e room_1 s m #[Value.ref b] below meth c H locs cells slots Z (F0 m 601 ls [])) : W p l e room_1 s m #[Value.ref b] below meth c H locs cells slots Z (F0 m 388 ls []) := by
  obtain ⟨hx, hb, hr9, hml, hown, hts, hSc, hbl, hlocks, hgv⟩ := id C0
  have hown : s.vm.findClass RL = some m.cls := hown
  have hbA : ¬ A b := fun h => absurd (hAr b h) (Nat.not_le.mpr hbl)
  have hts2 := lw_hts2 hts
  have hKc := hK.sub (tys' := cT Q) [0, 1, 2, 3, 4] rfl
  have hKr := hK.sub (tys' := rT P) [5, 6, 7] rfl
  have hN : 10000000000 ≤ 10000000000 := Nat.le_refl _
  have hN1 : 1000 ≤ 10000000000 := by decide
  obtain ⟨v1, ev1⟩ : ∃ v, v = xs (xi + 1).toNatClampNeg := ⟨_, rfl⟩
  obtain ⟨v2, ev2⟩ : ∃ v, v = xs (xi + 2).toNatClampNeg := ⟨_, rfl⟩
  obtain ⟨σ, ρ, fo, h, hc, hr, hL, hB, ht⟩ := hX
  refine lv_aload_n hx hb dL_law_388 rfl (lv_at hl 1 rfl) ?_
  refine lv_aload_n hx hb dL_law_389 rfl (lv_at hl 0 rfl) ?_
  refine lv_iload hx hb dL_law_390 (lv_at hl 4 rfl) ?_
  refine lv_iconst (v := 1) hx hb dL_law_392 (by decide) ?_
  refine lv_iadd hx hb dL_law_393 ?_
  refine lv_topi (fun z1 ez1 => ?_)
  refine va_sld hx hb hSc hbl hbA hL.2.2.1 (i := z1) (z_in (k := 1) hxi rfl hi (by decide) hL9 ez1) dL_law_394 ?_
  rw [ez1, ← ev1]
  refine lv_aload_n hx hb dL_law_395 rfl (lv_at hl 0 rfl) ?_
  refine lv_iload hx hb dL_law_396 (lv_at hl 4 rfl) ?_
  refine lv_iconst (v := 2) hx hb dL_law_398 (by decide) ?_
  refine lv_iadd hx hb dL_law_399 ?_
  refine lv_topi (fun z2 ez2 => ?_)
  refine va_sld hx hb hSc hbl hbA hL.2.2.1 (i := z2) (z_in (k := 2) hxi rfl hi (by decide) hL9 ez2) dL_law_400 ?_
  rw [ez2, ← ev2]
  obtain ⟨T, hfX, hc2⟩ : ok (f_X11_run 10000000000 σ v1 v2) (fun R => CIV h R.2) := z_run hN hc v1 v2
  have mo : CS.hs σ ≤ CS.hs T.2 := Mono.go hfX (m_X11_run 10000000000 σ v1 v2)
  have lt := hc2.lt
  refine lx_i hL hA (va_runV (As := [.int v1, .int v2]) (rest := []) ⟨hx, hb, hml, hown, hts2⟩ (c_X11_run l dC dI Q 10000000000 σ v1 v2 T hfX) (cwV 2 hts2 hL_law_X11_run_v56 rfl rfl rfl (by decide +kernel) ⟨Nat.le_of_ble_eq_true rfl, Nat.le_of_ble_eq_true rfl⟩) ⟨zPre.blind, va_recv hKc hL.c.1 (ci := 10) (q0 := 0) rfl rfl, cPre_go hZ hKc hL.c⟩ rfl rfl hl.1 rfl (lv_room (Nat.le_of_ble_eq_true rfl)) dL_law_401 (hB.ok mo lt)) (fun H locs hL => ?_)
  have hB := hB.go mo lt
  have hcX := hc
  have hc := hc2
  clear mo lt hc2
  generalize hgc : cells + (CS.hs T.2 - CS.hs σ) = cells1 at hB ⊢
  generalize hgs : slots + 17 * (CS.hs T.2 - CS.hs σ) = slots1 at hB ⊢
  clear hgc hgs
  generalize cells1 = cells at hB ⊢
  generalize slots1 = slots at hB ⊢
  refine lv_pop hx hb dL_law_404 rfl ?_
  refine lv_aload_n hx hb dL_law_405 rfl (lv_at hl 2 rfl) ?_
  refine lv_aload_n hx hb dL_law_406 rfl (lv_at hl 0 rfl) ?_
  refine lv_iload hx hb dL_law_407 (lv_at hl 4 rfl) ?_
  refine lv_iconst (v := 1) hx hb dL_law_409 (by decide) ?_
  refine lv_iadd hx hb dL_law_410 ?_
  refine lv_topi (fun z3 ez3 => ?_)
  refine va_sld hx hb hSc hbl hbA hL.2.2.1 (i := z3) (z_in (k := 1) hxi rfl hi (by decide) hL9 ez3) dL_law_411 ?_
  rw [ez3, ← ev1]
  refine lv_aload_n hx hb dL_law_412 rfl (lv_at hl 0 rfl) ?_
  refine lv_iload hx hb dL_law_413 (lv_at hl 4 rfl) ?_
  refine lv_iconst (v := 2) hx hb dL_law_415 (by decide) ?_
  refine lv_iadd hx hb dL_law_416 ?_
  refine lv_topi (fun z4 ez4 => ?_)
  refine va_sld hx hb hSc hbl hbA hL.2.2.1 (i := z4) (z_in (k := 2) hxi rfl hi (by decide) hL9 ez4) dL_law_417 ?_
  rw [ez4, ← ev2]
  obtain ⟨U, hfM, hr2⟩ : ok (f_X12_run 10000000000 ρ v1 v2) (fun R => RI R.2) := q_run (Nat.le_refl _) v1 v2 hr
  refine lx_m hL hA (va_runV (As := [.int v1, .int v2]) (rest := []) ⟨hx, hb, hml, hown, hts2⟩ (c_X12_run l dC dI H.size P 10000000000 ρ v1 v2 U hfM) (cwV 2 hts2 hL_law_X12_run_v59 rfl rfl rfl (by decide +kernel) ⟨Nat.le_of_ble_eq_true rfl, Nat.le_of_ble_eq_true rfl⟩) ⟨zPre.blind, va_recv hKr hL.m.1 (ci := 11) (q0 := 0) rfl rfl, zPre.go hZ hL.m.1 hKr hL.m.2⟩ rfl rfl hl.1 rfl (lv_room (Nat.le_of_ble_eq_true rfl)) dL_law_418 hB.ok0) (fun n9 H locs hn9 hL => ?_)
  have hB := hB.hs hn9
  have hc := hc.hs hn9
  obtain ⟨ht2, ha⟩ := u_run hN hcX hr.1 ht v1 v2 hfX hfM
  have ht := ht2.hs n9
  have hr := hr2
  clear hfM hfX ht2 hr2 hcX
  refine lv_pop hx hb dL_law_421 rfl ?_
  refine lv_goto (tgt := 601) hx hb dL_law_422 (by decide) ?_
  exact kk _ _ _ _ ⟨_, _, _, _, hc, hr, hL, hB, ht⟩
set_option maxHeartbeats 4000000 in
set_option maxRecDepth 100000 in
theorem L_c9 {p : Program} {e : Env} {s : State} {m : MethodId} {below : List Frame} {meth : Method} {c : Code} (l : Launch) {b L : Nat} {xs : Nat → Int32} {A : Nat → Prop} (C0 : lw_At p s m meth c b L xs) (hL9 : L < 2 ^ 31) (hA : ∀ q : Nat, s.heap.size ≤ q → A q) (hAr : ∀ q : Nat, A q → s.heap.size ≤ q) (dC : Nat → ClassId) (dI : Nat → Nat → Nat) (hZ : zAMB s) {Q : CQ} {P : RQ} {qO : Nat} {kO : ClassId} (hK : va_K (dC, dI) vwCl (cT Q ++ (rT P ++ [(kO, .long)])) s) {H : Heap} {locs : List Loc} {ls : Array Slot} {cells slots i rest : Nat} {xi : Int32} (hxi : xi = nI i) (hi : i + 6 ≤ L) (hl : lv_has ls 7 [(0, .ref b), (1, .ref (Q.o 0)), (2, .ref P.h0), (3, .ref qO), (4, .int xi)]) (hX : LST dC dI Q P qO kO A s.heap rest cells slots H locs) {Z : State → Prop} (kk : ∀ (cells slots : Nat) (H : Heap) (locs : List Loc), LST dC dI Q P qO kO A s.heap rest cells slots H locs → W p l e room_1 s m #[Value.ref b] below meth c H locs cells slots Z (F0 m 601 ls [])) : W p l e room_1 s m #[Value.ref b] below meth c H locs cells slots Z (F0 m 425 ls []) := by
  obtain ⟨hx, hb, hr9, hml, hown, hts, hSc, hbl, hlocks, hgv⟩ := id C0
  have hown : s.vm.findClass RL = some m.cls := hown
  have hbA : ¬ A b := fun h => absurd (hAr b h) (Nat.not_le.mpr hbl)
  have hts2 := lw_hts2 hts
  have hKc := hK.sub (tys' := cT Q) [0, 1, 2, 3, 4] rfl
  have hKr := hK.sub (tys' := rT P) [5, 6, 7] rfl
  have hN : 10000000000 ≤ 10000000000 := Nat.le_refl _
  have hN1 : 1000 ≤ 10000000000 := by decide
  obtain ⟨v1, ev1⟩ : ∃ v, v = xs (xi + 1).toNatClampNeg := ⟨_, rfl⟩
  obtain ⟨σ, ρ, fo, h, hc, hr, hL, hB, ht⟩ := hX
  refine lv_aload_n hx hb dL_law_425 rfl (lv_at hl 1 rfl) ?_
  refine lv_aload_n hx hb dL_law_426 rfl (lv_at hl 0 rfl) ?_
  refine lv_iload hx hb dL_law_427 (lv_at hl 4 rfl) ?_
  refine lv_iconst (v := 1) hx hb dL_law_429 (by decide) ?_
  refine lv_iadd hx hb dL_law_430 ?_
  refine lv_topi (fun z1 ez1 => ?_)
  refine va_sld hx hb hSc hbl hbA hL.2.2.1 (i := z1) (z_in (k := 1) hxi rfl hi (by decide) hL9 ez1) dL_law_431 ?_
  rw [ez1, ← ev1]
  obtain ⟨T, hfX, hc2⟩ : ok (f_X11_ran 10000000000 σ v1) (fun R => CIV h R.2) := z_ran hc v1
  have mo : CS.hs σ ≤ CS.hs T.2 := Mono.go hfX (m_X11_ran 10000000000 σ v1)
  have lt := hc2.lt
  refine lx_i hL hA (va_runV (As := [.int v1]) (rest := []) ⟨hx, hb, hml, hown, hts2⟩ (c_X11_ran l dC dI Q 10000000000 σ v1 T hfX) (cwV 1 hts2 hL_law_X11_ran_v60 rfl rfl rfl (by decide +kernel) ⟨Nat.le_of_ble_eq_true rfl, Nat.le_of_ble_eq_true rfl⟩) ⟨zPre.blind, va_recv hKc hL.c.1 (ci := 10) (q0 := 0) rfl rfl, cPre_go hZ hKc hL.c⟩ rfl rfl hl.1 rfl (lv_room (Nat.le_of_ble_eq_true rfl)) dL_law_432 (hB.ok mo lt)) (fun H locs hL => ?_)
  have hB := hB.go mo lt
  have hcX := hc
  have hc := hc2
  clear mo lt hc2
  generalize hgc : cells + (CS.hs T.2 - CS.hs σ) = cells1 at hB ⊢
  generalize hgs : slots + 17 * (CS.hs T.2 - CS.hs σ) = slots1 at hB ⊢
  clear hgc hgs
  generalize cells1 = cells at hB ⊢
  generalize slots1 = slots at hB ⊢
  refine lv_pop hx hb dL_law_435 rfl ?_
  refine lv_aload_n hx hb dL_law_436 rfl (lv_at hl 2 rfl) ?_
  refine lv_aload_n hx hb dL_law_437 rfl (lv_at hl 0 rfl) ?_
  refine lv_iload hx hb dL_law_438 (lv_at hl 4 rfl) ?_
  refine lv_iconst (v := 1) hx hb dL_law_440 (by decide) ?_
  refine lv_iadd hx hb dL_law_441 ?_
  refine lv_topi (fun z2 ez2 => ?_)
  refine va_sld hx hb hSc hbl hbA hL.2.2.1 (i := z2) (z_in (k := 1) hxi rfl hi (by decide) hL9 ez2) dL_law_442 ?_
  rw [ez2, ← ev1]
  obtain ⟨U, hfM, hr2⟩ : ok (f_X12_ran 10000000000 ρ v1) (fun R => RI R.2) := q_ran (by decide) v1 hr
  refine lx_m hL hA (va_runV (As := [.int v1]) (rest := []) ⟨hx, hb, hml, hown, hts2⟩ (c_X12_ran l dC dI H.size P 10000000000 ρ v1 U hfM) (cwV 1 hts2 hL_law_X12_ran_v63 rfl rfl rfl (by decide +kernel) ⟨Nat.le_of_ble_eq_true rfl, Nat.le_of_ble_eq_true rfl⟩) ⟨zPre.blind, va_recv hKr hL.m.1 (ci := 11) (q0 := 0) rfl rfl, zPre.go hZ hL.m.1 hKr hL.m.2⟩ rfl rfl hl.1 rfl (lv_room (Nat.le_of_ble_eq_true rfl)) dL_law_443 hB.ok0) (fun n9 H locs hn9 hL => ?_)
  have hB := hB.hs hn9
  have hc := hc.hs hn9
  have ht2 := u_ran ht v1 hfX hfM
  have ht := ht2.hs n9
  have hr := hr2
  clear hfM hfX ht2 hr2 hcX
  refine lv_pop hx hb dL_law_446 rfl ?_
  refine lv_goto (tgt := 601) hx hb dL_law_447 (by decide) ?_
  exact kk _ _ _ _ ⟨_, _, _, _, hc, hr, hL, hB, ht⟩
set_option maxHeartbeats 4000000 in
set_option maxRecDepth 100000 in
theorem L_c10 {p : Program} {e : Env} {s : State} {m : MethodId} {below : List Frame} {meth : Method} {c : Code} (l : Launch) {b L : Nat} {xs : Nat → Int32} {A : Nat → Prop} (C0 : lw_At p s m meth c b L xs) (hL9 : L < 2 ^ 31) (hA : ∀ q : Nat, s.heap.size ≤ q → A q) (hAr : ∀ q : Nat, A q → s.heap.size ≤ q) (dC : Nat → ClassId) (dI : Nat → Nat → Nat) (hZ : zAMB s) {Q : CQ} {P : RQ} {qO : Nat} {kO : ClassId} (hK : va_K (dC, dI) vwCl (cT Q ++ (rT P ++ [(kO, .long)])) s) {H : Heap} {locs : List Loc} {ls : Array Slot} {cells slots i rest : Nat} {xi : Int32} (hxi : xi = nI i) (hi : i + 6 ≤ L) (hl : lv_has ls 7 [(0, .ref b), (1, .ref (Q.o 0)), (2, .ref P.h0), (3, .ref qO), (4, .int xi)]) (hX : LST dC dI Q P qO kO A s.heap rest cells slots H locs) {Z : State → Prop} (kk : ∀ (cells slots : Nat) (H : Heap) (locs : List Loc), LST dC dI Q P qO kO A s.heap rest cells slots H locs → W p l e room_1 s m #[Value.ref b] below meth c H locs cells slots Z (F0 m 601 ls [])) : W p l e room_1 s m #[Value.ref b] below meth c H locs cells slots Z (F0 m 450 ls []) := by
  obtain ⟨hx, hb, hr9, hml, hown, hts, hSc, hbl, hlocks, hgv⟩ := id C0
  have hown : s.vm.findClass RL = some m.cls := hown
  have hbA : ¬ A b := fun h => absurd (hAr b h) (Nat.not_le.mpr hbl)
  have hts2 := lw_hts2 hts
  have hKc := hK.sub (tys' := cT Q) [0, 1, 2, 3, 4] rfl
  have hKr := hK.sub (tys' := rT P) [5, 6, 7] rfl
  have hN : 10000000000 ≤ 10000000000 := Nat.le_refl _
  have hN1 : 1000 ≤ 10000000000 := by decide
  obtain ⟨v1, ev1⟩ : ∃ v, v = xs (xi + 1).toNatClampNeg := ⟨_, rfl⟩
  obtain ⟨v2, ev2⟩ : ∃ v, v = xs (xi + 2).toNatClampNeg := ⟨_, rfl⟩
  obtain ⟨σ, ρ, fo, h, hc, hr, hL, hB, ht⟩ := hX
  refine lv_aload_n hx hb dL_law_450 rfl (lv_at hl 1 rfl) ?_
  refine lv_aload_n hx hb dL_law_451 rfl (lv_at hl 0 rfl) ?_
  refine lv_iload hx hb dL_law_452 (lv_at hl 4 rfl) ?_
  refine lv_iconst (v := 1) hx hb dL_law_454 (by decide) ?_
  refine lv_iadd hx hb dL_law_455 ?_
  refine lv_topi (fun z1 ez1 => ?_)
  refine va_sld hx hb hSc hbl hbA hL.2.2.1 (i := z1) (z_in (k := 1) hxi rfl hi (by decide) hL9 ez1) dL_law_456 ?_
  rw [ez1, ← ev1]
  refine lv_aload_n hx hb dL_law_457 rfl (lv_at hl 0 rfl) ?_
  refine lv_iload hx hb dL_law_458 (lv_at hl 4 rfl) ?_
  refine lv_iconst (v := 2) hx hb dL_law_460 (by decide) ?_
  refine lv_iadd hx hb dL_law_461 ?_
  refine lv_topi (fun z2 ez2 => ?_)
  refine va_sld hx hb hSc hbl hbA hL.2.2.1 (i := z2) (z_in (k := 2) hxi rfl hi (by decide) hL9 ez2) dL_law_462 ?_
  rw [ez2, ← ev2]
  obtain ⟨T, hfX, hc2⟩ : ok (f_X11_trace 10000000000 σ v1 v2) (fun R => CIV h R.2) := z_trace hc v1 v2
  have mo : CS.hs σ ≤ CS.hs T.2 := Mono.go hfX (m_X11_trace 10000000000 σ v1 v2)
  have lt := hc2.lt
  refine lx_i hL hA (va_runV (As := [.int v1, .int v2]) (rest := []) ⟨hx, hb, hml, hown, hts2⟩ (c_X11_trace l dC dI Q 10000000000 σ v1 v2 T hfX) (cwV 2 hts2 hL_law_X11_trace_v64 rfl rfl rfl (by decide +kernel) ⟨Nat.le_of_ble_eq_true rfl, Nat.le_of_ble_eq_true rfl⟩) ⟨zPre.blind, va_recv hKc hL.c.1 (ci := 10) (q0 := 0) rfl rfl, cPre_go hZ hKc hL.c⟩ rfl rfl hl.1 rfl (lv_room (Nat.le_of_ble_eq_true rfl)) dL_law_463 (hB.ok mo lt)) (fun H locs hL => ?_)
  have hB := hB.go mo lt
  have hcX := hc
  have hc := hc2
  clear mo lt hc2
  generalize hgc : cells + (CS.hs T.2 - CS.hs σ) = cells1 at hB ⊢
  generalize hgs : slots + 17 * (CS.hs T.2 - CS.hs σ) = slots1 at hB ⊢
  clear hgc hgs
  generalize cells1 = cells at hB ⊢
  generalize slots1 = slots at hB ⊢
  refine lv_pop hx hb dL_law_466 rfl ?_
  refine lv_aload_n hx hb dL_law_467 rfl (lv_at hl 2 rfl) ?_
  refine lv_aload_n hx hb dL_law_468 rfl (lv_at hl 0 rfl) ?_
  refine lv_iload hx hb dL_law_469 (lv_at hl 4 rfl) ?_
  refine lv_iconst (v := 1) hx hb dL_law_471 (by decide) ?_
  refine lv_iadd hx hb dL_law_472 ?_
  refine lv_topi (fun z3 ez3 => ?_)
  refine va_sld hx hb hSc hbl hbA hL.2.2.1 (i := z3) (z_in (k := 1) hxi rfl hi (by decide) hL9 ez3) dL_law_473 ?_
  rw [ez3, ← ev1]
  refine lv_aload_n hx hb dL_law_474 rfl (lv_at hl 0 rfl) ?_
  refine lv_iload hx hb dL_law_475 (lv_at hl 4 rfl) ?_
  refine lv_iconst (v := 2) hx hb dL_law_477 (by decide) ?_
  refine lv_iadd hx hb dL_law_478 ?_
  refine lv_topi (fun z4 ez4 => ?_)
  refine va_sld hx hb hSc hbl hbA hL.2.2.1 (i := z4) (z_in (k := 2) hxi rfl hi (by decide) hL9 ez4) dL_law_479 ?_
  rw [ez4, ← ev2]
  obtain ⟨U, hfM, hr2⟩ : ok (f_X12_trace 10000000000 ρ v1 v2) (fun R => RI R.2) := q_trace v1 v2 hr
  refine lx_m hL hA (va_runV (As := [.int v1, .int v2]) (rest := []) ⟨hx, hb, hml, hown, hts2⟩ (c_X12_trace l dC dI H.size P 10000000000 ρ v1 v2 U hfM) (cwV 2 hts2 hL_law_X12_trace_v67 rfl rfl rfl (by decide +kernel) ⟨Nat.le_of_ble_eq_true rfl, Nat.le_of_ble_eq_true rfl⟩) ⟨zPre.blind, va_recv hKr hL.m.1 (ci := 11) (q0 := 0) rfl rfl, zPre.go hZ hL.m.1 hKr hL.m.2⟩ rfl rfl hl.1 rfl (lv_room (Nat.le_of_ble_eq_true rfl)) dL_law_480 hB.ok0) (fun n9 H locs hn9 hL => ?_)
  have hB := hB.hs hn9
  have hc := hc.hs hn9
  have ht2 := u_trace ht v1 v2 hfX hfM
  have ht := ht2.hs n9
  have hr := hr2
  clear hfM hfX ht2 hr2 hcX
  refine lv_pop hx hb dL_law_483 rfl ?_
  refine lv_goto (tgt := 601) hx hb dL_law_484 (by decide) ?_
  exact kk _ _ _ _ ⟨_, _, _, _, hc, hr, hL, hB, ht⟩
set_option maxHeartbeats 4000000 in
set_option maxRecDepth 100000 in
theorem L_c11 {p : Program} {e : Env} {s : State} {m : MethodId} {below : List Frame} {meth : Method} {c : Code} (l : Launch) {b L : Nat} {xs : Nat → Int32} {A : Nat → Prop} (C0 : lw_At p s m meth c b L xs) (hL9 : L < 2 ^ 31) (hA : ∀ q : Nat, s.heap.size ≤ q → A q) (hAr : ∀ q : Nat, A q → s.heap.size ≤ q) (dC : Nat → ClassId) (dI : Nat → Nat → Nat) (hZ : zAMB s) {Q : CQ} {P : RQ} {qO : Nat} {kO : ClassId} (hK : va_K (dC, dI) vwCl (cT Q ++ (rT P ++ [(kO, .long)])) s) {H : Heap} {locs : List Loc} {ls : Array Slot} {cells slots i rest : Nat} {xi : Int32} (hxi : xi = nI i) (hi : i + 6 ≤ L) (hl : lv_has ls 7 [(0, .ref b), (1, .ref (Q.o 0)), (2, .ref P.h0), (3, .ref qO), (4, .int xi)]) (hX : LST dC dI Q P qO kO A s.heap rest cells slots H locs) {Z : State → Prop} (kk : ∀ (cells slots : Nat) (H : Heap) (locs : List Loc), LST dC dI Q P qO kO A s.heap rest cells slots H locs → W p l e room_1 s m #[Value.ref b] below meth c H locs cells slots Z (F0 m 601 ls [])) : W p l e room_1 s m #[Value.ref b] below meth c H locs cells slots Z (F0 m 487 ls []) := by
  obtain ⟨hx, hb, hr9, hml, hown, hts, hSc, hbl, hlocks, hgv⟩ := id C0
  have hown : s.vm.findClass RL = some m.cls := hown
  have hbA : ¬ A b := fun h => absurd (hAr b h) (Nat.not_le.mpr hbl)
  have hts2 := lw_hts2 hts
  have hKc := hK.sub (tys' := cT Q) [0, 1, 2, 3, 4] rfl
  have hKr := hK.sub (tys' := rT P) [5, 6, 7] rfl
  have hN : 10000000000 ≤ 10000000000 := Nat.le_refl _
  have hN1 : 1000 ≤ 10000000000 := by decide
  obtain ⟨v1, ev1⟩ : ∃ v, v = xs (xi + 1).toNatClampNeg := ⟨_, rfl⟩
  obtain ⟨v2, ev2⟩ : ∃ v, v = xs (xi + 2).toNatClampNeg := ⟨_, rfl⟩
  obtain ⟨σ, ρ, fo, h, hc, hr, hL, hB, ht⟩ := hX
  refine lv_aload_n hx hb dL_law_487 rfl (lv_at hl 1 rfl) ?_
  refine lv_aload_n hx hb dL_law_488 rfl (lv_at hl 0 rfl) ?_
  refine lv_iload hx hb dL_law_489 (lv_at hl 4 rfl) ?_
  refine lv_iconst (v := 1) hx hb dL_law_491 (by decide) ?_
  refine lv_iadd hx hb dL_law_492 ?_
  refine lv_topi (fun z1 ez1 => ?_)
  refine va_sld hx hb hSc hbl hbA hL.2.2.1 (i := z1) (z_in (k := 1) hxi rfl hi (by decide) hL9 ez1) dL_law_493 ?_
  rw [ez1, ← ev1]
  refine lv_aload_n hx hb dL_law_494 rfl (lv_at hl 0 rfl) ?_
  refine lv_iload hx hb dL_law_495 (lv_at hl 4 rfl) ?_
  refine lv_iconst (v := 2) hx hb dL_law_497 (by decide) ?_
  refine lv_iadd hx hb dL_law_498 ?_
  refine lv_topi (fun z2 ez2 => ?_)
  refine va_sld hx hb hSc hbl hbA hL.2.2.1 (i := z2) (z_in (k := 2) hxi rfl hi (by decide) hL9 ez2) dL_law_499 ?_
  rw [ez2, ← ev2]
  obtain ⟨T, hfX, hc2⟩ : ok (f_X11_suppressed 10000000000 σ v1 v2) (fun R => CIV h R.2) := z_suppressed hc v1 v2
  have mo : CS.hs σ ≤ CS.hs T.2 := Mono.go hfX (m_X11_suppressed 10000000000 σ v1 v2)
  have lt := hc2.lt
  refine lx_i hL hA (va_runV (As := [.int v1, .int v2]) (rest := []) ⟨hx, hb, hml, hown, hts2⟩ (c_X11_suppressed l dC dI Q 10000000000 σ v1 v2 T hfX) (cwV 2 hts2 hL_law_X11_suppressed_v68 rfl rfl rfl (by decide +kernel) ⟨Nat.le_of_ble_eq_true rfl, Nat.le_of_ble_eq_true rfl⟩) ⟨zPre.blind, va_recv hKc hL.c.1 (ci := 10) (q0 := 0) rfl rfl, cPre_go hZ hKc hL.c⟩ rfl rfl hl.1 rfl (lv_room (Nat.le_of_ble_eq_true rfl)) dL_law_500 (hB.ok mo lt)) (fun H locs hL => ?_)
  have hB := hB.go mo lt
  have hcX := hc
  have hc := hc2
  clear mo lt hc2
  generalize hgc : cells + (CS.hs T.2 - CS.hs σ) = cells1 at hB ⊢
  generalize hgs : slots + 17 * (CS.hs T.2 - CS.hs σ) = slots1 at hB ⊢
  clear hgc hgs
  generalize cells1 = cells at hB ⊢
  generalize slots1 = slots at hB ⊢
  refine lv_aload_n hx hb dL_law_503 rfl (lv_at hl 2 rfl) ?_
  refine lv_aload_n hx hb dL_law_504 rfl (lv_at hl 0 rfl) ?_
  refine lv_iload hx hb dL_law_505 (lv_at hl 4 rfl) ?_
  refine lv_iconst (v := 1) hx hb dL_law_507 (by decide) ?_
  refine lv_iadd hx hb dL_law_508 ?_
  refine lv_topi (fun z3 ez3 => ?_)
  refine va_sld hx hb hSc hbl hbA hL.2.2.1 (i := z3) (z_in (k := 1) hxi rfl hi (by decide) hL9 ez3) dL_law_509 ?_
  rw [ez3, ← ev1]
  refine lv_aload_n hx hb dL_law_510 rfl (lv_at hl 0 rfl) ?_
  refine lv_iload hx hb dL_law_511 (lv_at hl 4 rfl) ?_
  refine lv_iconst (v := 2) hx hb dL_law_513 (by decide) ?_
  refine lv_iadd hx hb dL_law_514 ?_
  refine lv_topi (fun z4 ez4 => ?_)
  refine va_sld hx hb hSc hbl hbA hL.2.2.1 (i := z4) (z_in (k := 2) hxi rfl hi (by decide) hL9 ez4) dL_law_515 ?_
  rw [ez4, ← ev2]
  obtain ⟨U, hfM, hr2⟩ : ok (f_X12_suppressed 10000000000 ρ v1 v2) (fun R => RI R.2) := q_suppressed v1 v2 hr
  refine lx_m hL hA (va_runV (As := [.int v1, .int v2]) (rest := [.int T.1]) ⟨hx, hb, hml, hown, hts2⟩ (c_X12_suppressed l dC dI H.size P 10000000000 ρ v1 v2 U hfM) (cwV 2 hts2 hL_law_X12_suppressed_v71 rfl rfl rfl (by decide +kernel) ⟨Nat.le_of_ble_eq_true rfl, Nat.le_of_ble_eq_true rfl⟩) ⟨zPre.blind, va_recv hKr hL.m.1 (ci := 11) (q0 := 0) rfl rfl, zPre.go hZ hL.m.1 hKr hL.m.2⟩ rfl rfl hl.1 rfl (lv_room (Nat.le_of_ble_eq_true rfl)) dL_law_516 hB.ok0) (fun n9 H locs hn9 hL => ?_)
  have hB := hB.hs hn9
  have hc := hc.hs hn9
  have ha := v_suppressed ht.2.2.2.2 v1 v2 hfX hfM
  have ht2 := u_suppressed ht v1 v2 hfX hfM
  have ht := ht2.hs n9
  have hr := hr2
  clear hfM hfX ht2 hr2 hcX
  rw [ha]
  refine lv_icmp_eq (tgt := 601) hx hb dL_law_519 (by decide) (fun _ => ?_) (fun c9 => absurd rfl c9)
  exact kk _ _ _ _ ⟨_, _, _, _, hc, hr, hL, hB, ht⟩
set_option maxHeartbeats 4000000 in
set_option maxRecDepth 100000 in
theorem L_c12 {p : Program} {e : Env} {s : State} {m : MethodId} {below : List Frame} {meth : Method} {c : Code} (l : Launch) {b L : Nat} {xs : Nat → Int32} {A : Nat → Prop} (C0 : lw_At p s m meth c b L xs) (hL9 : L < 2 ^ 31) (hA : ∀ q : Nat, s.heap.size ≤ q → A q) (hAr : ∀ q : Nat, A q → s.heap.size ≤ q) (dC : Nat → ClassId) (dI : Nat → Nat → Nat) (hZ : zAMB s) {Q : CQ} {P : RQ} {qO : Nat} {kO : ClassId} (hK : va_K (dC, dI) vwCl (cT Q ++ (rT P ++ [(kO, .long)])) s) {H : Heap} {locs : List Loc} {ls : Array Slot} {cells slots i rest : Nat} {xi : Int32} (hxi : xi = nI i) (hi : i + 6 ≤ L) (hl : lv_has ls 7 [(0, .ref b), (1, .ref (Q.o 0)), (2, .ref P.h0), (3, .ref qO), (4, .int xi)]) (hX : LST dC dI Q P qO kO A s.heap rest cells slots H locs) {Z : State → Prop} (kk : ∀ (cells slots : Nat) (H : Heap) (locs : List Loc), LST dC dI Q P qO kO A s.heap rest cells slots H locs → W p l e room_1 s m #[Value.ref b] below meth c H locs cells slots Z (F0 m 601 ls [])) : W p l e room_1 s m #[Value.ref b] below meth c H locs cells slots Z (F0 m 524 ls []) := by
  obtain ⟨hx, hb, hr9, hml, hown, hts, hSc, hbl, hlocks, hgv⟩ := id C0
  have hown : s.vm.findClass RL = some m.cls := hown
  have hbA : ¬ A b := fun h => absurd (hAr b h) (Nat.not_le.mpr hbl)
  have hts2 := lw_hts2 hts
  have hKc := hK.sub (tys' := cT Q) [0, 1, 2, 3, 4] rfl
  have hKr := hK.sub (tys' := rT P) [5, 6, 7] rfl
  have hN : 10000000000 ≤ 10000000000 := Nat.le_refl _
  have hN1 : 1000 ≤ 10000000000 := by decide
  obtain ⟨v1, ev1⟩ : ∃ v, v = xs (xi + 1).toNatClampNeg := ⟨_, rfl⟩
  obtain ⟨v2, ev2⟩ : ∃ v, v = xs (xi + 2).toNatClampNeg := ⟨_, rfl⟩
  obtain ⟨σ, ρ, fo, h, hc, hr, hL, hB, ht⟩ := hX
  refine lv_aload_n hx hb dL_law_524 rfl (lv_at hl 1 rfl) ?_
  refine lv_aload_n hx hb dL_law_525 rfl (lv_at hl 0 rfl) ?_
  refine lv_iload hx hb dL_law_526 (lv_at hl 4 rfl) ?_
  refine lv_iconst (v := 1) hx hb dL_law_528 (by decide) ?_
  refine lv_iadd hx hb dL_law_529 ?_
  refine lv_topi (fun z1 ez1 => ?_)
  refine va_sld hx hb hSc hbl hbA hL.2.2.1 (i := z1) (z_in (k := 1) hxi rfl hi (by decide) hL9 ez1) dL_law_530 ?_
  rw [ez1, ← ev1]
  refine lv_aload_n hx hb dL_law_531 rfl (lv_at hl 0 rfl) ?_
  refine lv_iload hx hb dL_law_532 (lv_at hl 4 rfl) ?_
  refine lv_iconst (v := 2) hx hb dL_law_534 (by decide) ?_
  refine lv_iadd hx hb dL_law_535 ?_
  refine lv_topi (fun z2 ez2 => ?_)
  refine va_sld hx hb hSc hbl hbA hL.2.2.1 (i := z2) (z_in (k := 2) hxi rfl hi (by decide) hL9 ez2) dL_law_536 ?_
  rw [ez2, ← ev2]
  obtain ⟨T, hfX, hc2⟩ : ok (f_X11_under 10000000000 σ v1 v2) (fun R => CIV h R.2) := z_under hN1 hc v1 v2
  have mo : CS.hs σ ≤ CS.hs T.2 := Mono.go hfX (m_X11_under 10000000000 σ v1 v2)
  have lt := hc2.lt
  refine lx_i hL hA (va_runV (As := [.int v1, .int v2]) (rest := []) ⟨hx, hb, hml, hown, hts2⟩ (c_X11_under l dC dI Q 10000000000 σ v1 v2 T hfX) (cwV 2 hts2 hL_law_X11_under_v72 rfl rfl rfl (by decide +kernel) ⟨Nat.le_of_ble_eq_true rfl, Nat.le_of_ble_eq_true rfl⟩) ⟨zPre.blind, va_recv hKc hL.c.1 (ci := 10) (q0 := 0) rfl rfl, cPre_go hZ hKc hL.c⟩ rfl rfl hl.1 rfl (lv_room (Nat.le_of_ble_eq_true rfl)) dL_law_537 (hB.ok mo lt)) (fun H locs hL => ?_)
  have hB := hB.go mo lt
  have hcX := hc
  have hc := hc2
  clear mo lt hc2
  generalize hgc : cells + (CS.hs T.2 - CS.hs σ) = cells1 at hB ⊢
  generalize hgs : slots + 17 * (CS.hs T.2 - CS.hs σ) = slots1 at hB ⊢
  clear hgc hgs
  generalize cells1 = cells at hB ⊢
  generalize slots1 = slots at hB ⊢
  refine lv_pop hx hb dL_law_540 rfl ?_
  refine lv_aload_n hx hb dL_law_541 rfl (lv_at hl 2 rfl) ?_
  refine lv_aload_n hx hb dL_law_542 rfl (lv_at hl 0 rfl) ?_
  refine lv_iload hx hb dL_law_543 (lv_at hl 4 rfl) ?_
  refine lv_iconst (v := 1) hx hb dL_law_545 (by decide) ?_
  refine lv_iadd hx hb dL_law_546 ?_
  refine lv_topi (fun z3 ez3 => ?_)
  refine va_sld hx hb hSc hbl hbA hL.2.2.1 (i := z3) (z_in (k := 1) hxi rfl hi (by decide) hL9 ez3) dL_law_547 ?_
  rw [ez3, ← ev1]
  refine lv_aload_n hx hb dL_law_548 rfl (lv_at hl 0 rfl) ?_
  refine lv_iload hx hb dL_law_549 (lv_at hl 4 rfl) ?_
  refine lv_iconst (v := 2) hx hb dL_law_551 (by decide) ?_
  refine lv_iadd hx hb dL_law_552 ?_
  refine lv_topi (fun z4 ez4 => ?_)
  refine va_sld hx hb hSc hbl hbA hL.2.2.1 (i := z4) (z_in (k := 2) hxi rfl hi (by decide) hL9 ez4) dL_law_553 ?_
  rw [ez4, ← ev2]
  obtain ⟨U, hfM, hr2⟩ : ok (f_X12_under 10000000000 ρ v1 v2) (fun R => RI R.2) := q_under (by decide) v1 v2 hr
  refine lx_m hL hA (va_runV (As := [.int v1, .int v2]) (rest := []) ⟨hx, hb, hml, hown, hts2⟩ (c_X12_under l dC dI H.size P 10000000000 ρ v1 v2 U hfM) (cwV 2 hts2 hL_law_X12_under_v75 rfl rfl rfl (by decide +kernel) ⟨Nat.le_of_ble_eq_true rfl, Nat.le_of_ble_eq_true rfl⟩) ⟨zPre.blind, va_recv hKr hL.m.1 (ci := 11) (q0 := 0) rfl rfl, zPre.go hZ hL.m.1 hKr hL.m.2⟩ rfl rfl hl.1 rfl (lv_room (Nat.le_of_ble_eq_true rfl)) dL_law_554 hB.ok0) (fun n9 H locs hn9 hL => ?_)
  have hB := hB.hs hn9
  have hc := hc.hs hn9
  obtain ⟨ht2, ha⟩ := u_under hN1 hr.1 ht v1 v2 hfX hfM
  have ht := ht2.hs n9
  have hr := hr2
  clear hfM hfX ht2 hr2 hcX
  refine lv_pop hx hb dL_law_557 rfl ?_
  refine lv_goto (tgt := 601) hx hb dL_law_558 (by decide) ?_
  exact kk _ _ _ _ ⟨_, _, _, _, hc, hr, hL, hB, ht⟩
