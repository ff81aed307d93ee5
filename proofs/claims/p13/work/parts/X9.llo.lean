/-! the law: its loop -/
theorem LST.wk {dC : Nat → ClassId} {dI : Nat → Nat → Nat} {Q : CQ} {P : RQ} {qO : Nat} {kO : ClassId} {A : Nat → Prop} {H0 : Heap} {rest cells slots : Nat} {H : Heap} {locs : List Loc} (h : LST dC dI Q P qO kO A H0 (rest + 1) cells slots H locs) : LST dC dI Q P qO kO A H0 rest cells slots H locs := by
  obtain ⟨s, r, fo, h0, a, b, c, d, f⟩ := h
  exact ⟨s, r, fo, h0, a, b, c, d.wk, f⟩
theorem nI_add6 {i : Nat} {x : Int32} (h : x = nI i) : x + Int32.ofInt 6 = nI (i + 6) := by
  rw [h]
  refine Int32.toInt_inj.mp ?_
  show (Int32.ofNat i + Int32.ofNat 6).toInt = (Int32.ofNat (i + 6)).toInt
  rw [← Int32.ofNat_add]
theorem nI_int {i : Nat} (h : i < 2 ^ 31) : (nI i).toInt = (i : Int) := by
  show (Int32.ofNat i).toInt = (i : Int)
  rw [Int32.toInt_ofNat_of_lt h]
theorem z_gt {L i : Nat} {x z : Int32} (hL : L ≤ 3072) (hi : i ≤ 4000) (hx : x = nI i) (hz : z = Int32.ofNat L - 6) : (i + 6 ≤ L → ¬ z < x) ∧ (¬ i + 6 ≤ L → z < x) := by
  have e6 : (6 : Int32).toInt = 6 := by decide
  have eL : (Int32.ofNat L).toInt = (L : Int) := nI_int (by omega)
  have ez : z.toInt = (L : Int) - 6 := by
    rw [hz, toInt_sub] <;> rw [e6, eL] <;> omega
  have ex : x.toInt = (i : Int) := by rw [hx]; exact nI_int (by omega)
  refine ⟨fun h q => ?_, fun h => ?_⟩
  · have := Int32.lt_iff_toInt_lt.mp q
    omega
  · refine Int32.lt_iff_toInt_lt.mpr ?_
    omega
set_option maxHeartbeats 4000000 in
set_option maxRecDepth 100000 in
theorem L_loop {p : Program} {e : Env} {s : State} {m : MethodId} {below : List Frame} {meth : Method} {c : Code} (l : Launch) {b L : Nat} {xs : Nat → Int32} {A : Nat → Prop} (C0 : lw_At p s m meth c b L xs) (hL9 : L ≤ 3072) (hA : ∀ q : Nat, s.heap.size ≤ q → A q) (hAr : ∀ q : Nat, A q → s.heap.size ≤ q) (dC : Nat → ClassId) (dI : Nat → Nat → Nat) (hZ : zAMB s) (hT : zTHR A s s.heap) (hl9 : l.stackTraces = false) {Q : CQ} {P : RQ} {qO : Nat} {kO : ClassId} (hK : va_K (dC, dI) vwCl (cT Q ++ (rT P ++ [(kO, .long)])) s) : ∀ (rest i : Nat) (xi : Int32) (cells slots : Nat) (H : Heap) (locs : List Loc) (ls : Array Slot), xi = nI i → i ≤ 3600 → L ≤ i + 6 * rest + 5 → lv_has ls 7 [(0, .ref b), (1, .ref (Q.o 0)), (2, .ref P.h0), (3, .ref qO), (4, .int xi)] → LST dC dI Q P qO kO A s.heap rest cells slots H locs → W p l e room_1 s m #[Value.ref b] below meth c H locs cells slots (lw_Z below #[Value.ref b] s) (F0 m 23 ls []) := by
  intro rest
  induction rest with
  | zero =>
    intro i xi cells slots H locs ls hxi hi4 hLr hl hX
    obtain ⟨hx, hb, hr, hml, hown, hts, hSc, hbl, hlocks, hgv⟩ := id C0
    have hbA : ¬ A b := fun h => absurd (hAr b h) (Nat.not_le.mpr hbl)
    have hS : va_S A s.heap H locs := by obtain ⟨_, _, _, _, _, _, hL, _, _⟩ := hX; exact hL.2.2.1
    have hbud : cells ≤ 601024 ∧ slots ≤ 7293034 := by
      obtain ⟨_, _, _, _, _, _, _, hB, _⟩ := hX
      unfold BUD at hB
      omega
    refine lv_iload hx hb dL_law_23 (lv_at hl 4 rfl) ?_
    refine lv_aload_n hx hb dL_law_25 rfl (lv_at hl 0 rfl) ?_
    refine va_slen hx hb hSc hbl hbA hS dL_law_26 ?_
    refine lv_bipush (v := 6) hx hb dL_law_27 (by decide) ?_
    refine lv_isub hx hb dL_law_29 ?_
    refine lv_topi (fun z9 ez9 => ?_)
    have hg := z_gt hL9 (by omega) hxi ez9
    refine lv_icmp_gt (tgt := 607) hx hb dL_law_30 (by decide) (fun _ => ?_) (fun c9 => absurd (hg.2 (by omega)) c9)
    refine lv_iconst (v := 1) hx hb dL_law_607 (by decide) ?_
    refine va_forget (fun q hq => hAr _ (hS.2.2 q hq)) ?_
    refine W.widen (k := 601024) (n := 7293034) hbud.1 hbud.2 ?_
    exact lw_ret hx hb hr hlocks dL_law_608
  | succ rest ih =>
    intro i xi cells slots H locs ls hxi hi4 hLr hl hX
    obtain ⟨hx, hb, hr, hml, hown, hts, hSc, hbl, hlocks, hgv⟩ := id C0
    have hbA : ¬ A b := fun h => absurd (hAr b h) (Nat.not_le.mpr hbl)
    have hS : va_S A s.heap H locs := by obtain ⟨_, _, _, _, _, _, hL, _, _⟩ := hX; exact hL.2.2.1
    have hbud : cells ≤ 601024 ∧ slots ≤ 7293034 := by
      obtain ⟨_, _, _, _, _, _, _, hB, _⟩ := hX
      unfold BUD at hB
      omega
    refine lv_iload hx hb dL_law_23 (lv_at hl 4 rfl) ?_
    refine lv_aload_n hx hb dL_law_25 rfl (lv_at hl 0 rfl) ?_
    refine va_slen hx hb hSc hbl hbA hS dL_law_26 ?_
    refine lv_bipush (v := 6) hx hb dL_law_27 (by decide) ?_
    refine lv_isub hx hb dL_law_29 ?_
    refine lv_topi (fun z9 ez9 => ?_)
    have hg := z_gt hL9 (by omega) hxi ez9
    refine lv_icmp_gt (tgt := 607) hx hb dL_law_30 (by decide) (fun _ => ?_) (fun c9 => ?_)
    ·
      refine lv_iconst (v := 1) hx hb dL_law_607 (by decide) ?_
      refine va_forget (fun q hq => hAr _ (hS.2.2 q hq)) ?_
      refine W.widen (k := 601024) (n := 7293034) hbud.1 hbud.2 ?_
      exact lw_ret hx hb hr hlocks dL_law_608
    ·
      have hi : i + 6 ≤ L := by
        rcases Nat.lt_or_ge L (i + 6) with q | q
        · exact absurd (hg.2 (by omega)) c9
        · exact q
      have hL31 : L < 2 ^ 31 := by omega
      have nxt : ∀ (cells slots : Nat) (H : Heap) (locs : List Loc) (ls : Array Slot), lv_has ls 7 [(0, .ref b), (1, .ref (Q.o 0)), (2, .ref P.h0), (3, .ref qO), (4, .int xi)] → LST dC dI Q P qO kO A s.heap rest cells slots H locs → W p l e room_1 s m #[Value.ref b] below meth c H locs cells slots (lw_Z below #[Value.ref b] s) (F0 m 601 ls []) := by
        intro cells slots H locs ls hl hX
        obtain ⟨z6, ez6⟩ : ∃ y : Int32, y = xi + Int32.ofInt (6) := ⟨_, rfl⟩
        refine lv_iinc (v := z6) (lv' := [(4, .int z6), (0, .ref b), (1, .ref (Q.o 0)), (2, .ref P.h0), (3, .ref qO)]) hx hb dL_law_601 hl (k := 4) rfl (ez6.symm) (by decide) rfl (fun ls hl => ?_)
        refine lv_goto (tgt := 23) hx hb dL_law_604 (by decide) ?_
        exact ih (i + 6) z6 cells slots H locs ls (ez6.trans (nI_add6 hxi)) (by omega) (by omega) (lv_sub hl [1, 2, 3, 4, 0] rfl) hX
      refine lv_aload_n hx hb dL_law_33 rfl (lv_at hl 0 rfl) ?_
      refine lv_iload hx hb dL_law_34 (lv_at hl 4 rfl) ?_
      refine va_sld hx hb hSc hbl hbA hS (i := xi) (by rw [hxi]; exact vp_in_nI (by omega) hL31) dL_law_36 ?_
      refine lv_topi (fun v0 ev0 => ?_)
      clear ev0
      refine lv_bipush (v := 15) hx hb dL_law_37 (by decide) ?_
      refine lv_iand hx hb dL_law_39 ?_
      refine lv_topi (fun z1 ez1 => ?_)
      obtain ⟨j9, hj9, ej9⟩ := pk_andE v0 (m := 15) 4 (by decide)
      have ez : z1 = nI j9 := ez1.trans ej9
      clear ez1 ej9
      rcases (show j9 = 0 ∨ j9 = 1 ∨ j9 = 2 ∨ j9 = 3 ∨ j9 = 4 ∨ j9 = 5 ∨ j9 = 6 ∨ j9 = 7 ∨ j9 = 8 ∨ j9 = 9 ∨ j9 = 10 ∨ j9 = 11 ∨ j9 = 12 ∨ j9 = 13 ∨ j9 = 14 ∨ j9 = 15 by omega) with rfl | rfl | rfl | rfl | rfl | rfl | rfl | rfl | rfl | rfl | rfl | rfl | rfl | rfl | rfl | rfl
      ·
        have ez : z1 = 0 := ez.trans (by decide)
        rw [ez]
        refine lv_tableIn (off := 72) (tgt := 112) hx hb dL_law_40 (by decide) (by decide) (by decide) (by decide) ?_
        exact L_c0 l C0 hL31 hA hAr dC dI hZ hK hxi hi hl hX (fun cells slots H locs hX => nxt cells slots H locs ls hl hX.wk)
      ·
        have ez : z1 = 1 := ez.trans (by decide)
        rw [ez]
        refine lv_tableIn (off := 145) (tgt := 185) hx hb dL_law_40 (by decide) (by decide) (by decide) (by decide) ?_
        exact L_c1 l C0 hL31 hA hAr dC dI hZ hK hxi hi hl hX (fun cells slots H locs hX => nxt cells slots H locs ls hl hX.wk)
      ·
        have ez : z1 = 2 := ez.trans (by decide)
        rw [ez]
        refine lv_tableIn (off := 170) (tgt := 210) hx hb dL_law_40 (by decide) (by decide) (by decide) (by decide) ?_
        exact L_c2 l C0 hL31 hA hAr dC dI hZ hK hxi hi hl hX (fun cells slots H locs hX => nxt cells slots H locs ls hl hX.wk)
      ·
        have ez : z1 = 3 := ez.trans (by decide)
        rw [ez]
        refine lv_tableIn (off := 195) (tgt := 235) hx hb dL_law_40 (by decide) (by decide) (by decide) (by decide) ?_
        exact L_c3 l C0 hL31 hA hAr dC dI hZ hK hxi hi hl hX (fun cells slots H locs hX => nxt cells slots H locs ls hl hX.wk)
      ·
        have ez : z1 = 4 := ez.trans (by decide)
        rw [ez]
        refine lv_tableIn (off := 256) (tgt := 296) hx hb dL_law_40 (by decide) (by decide) (by decide) (by decide) ?_
        exact L_c4 l C0 hL31 hA hAr dC dI hZ hK hxi hi hl hX (fun cells slots H locs hX => nxt cells slots H locs ls hl hX.wk)
      ·
        have ez : z1 = 5 := ez.trans (by decide)
        rw [ez]
        refine lv_tableIn (off := 297) (tgt := 337) hx hb dL_law_40 (by decide) (by decide) (by decide) (by decide) ?_
        exact L_c5 l C0 hL31 hA hAr dC dI hZ hK hxi hi hl hX (fun cells slots H locs hX => nxt cells slots H locs ls hl hX.wk)
      ·
        have ez : z1 = 6 := ez.trans (by decide)
        rw [ez]
        refine lv_tableIn (off := 310) (tgt := 350) hx hb dL_law_40 (by decide) (by decide) (by decide) (by decide) ?_
        exact L_c6 l C0 hL31 hA hAr dC dI hZ hK hxi hi hl hX (fun cells slots H locs hX => nxt cells slots H locs ls hl hX.wk)
      ·
        have ez : z1 = 7 := ez.trans (by decide)
        rw [ez]
        refine lv_tableIn (off := 323) (tgt := 363) hx hb dL_law_40 (by decide) (by decide) (by decide) (by decide) ?_
        exact L_c7 l C0 hL31 hA hAr dC dI hZ hK hxi hi hl hX (fun cells slots H locs hX => nxt cells slots H locs ls hl hX.wk)
      ·
        have ez : z1 = 8 := ez.trans (by decide)
        rw [ez]
        refine lv_tableIn (off := 348) (tgt := 388) hx hb dL_law_40 (by decide) (by decide) (by decide) (by decide) ?_
        exact L_c8 l C0 hL31 hA hAr dC dI hZ hK hxi hi hl hX (fun cells slots H locs hX => nxt cells slots H locs ls hl hX.wk)
      ·
        have ez : z1 = 9 := ez.trans (by decide)
        rw [ez]
        refine lv_tableIn (off := 385) (tgt := 425) hx hb dL_law_40 (by decide) (by decide) (by decide) (by decide) ?_
        exact L_c9 l C0 hL31 hA hAr dC dI hZ hK hxi hi hl hX (fun cells slots H locs hX => nxt cells slots H locs ls hl hX.wk)
      ·
        have ez : z1 = 10 := ez.trans (by decide)
        rw [ez]
        refine lv_tableIn (off := 410) (tgt := 450) hx hb dL_law_40 (by decide) (by decide) (by decide) (by decide) ?_
        exact L_c10 l C0 hL31 hA hAr dC dI hZ hK hxi hi hl hX (fun cells slots H locs hX => nxt cells slots H locs ls hl hX.wk)
      ·
        have ez : z1 = 11 := ez.trans (by decide)
        rw [ez]
        refine lv_tableIn (off := 447) (tgt := 487) hx hb dL_law_40 (by decide) (by decide) (by decide) (by decide) ?_
        exact L_c11 l C0 hL31 hA hAr dC dI hZ hK hxi hi hl hX (fun cells slots H locs hX => nxt cells slots H locs ls hl hX.wk)
      ·
        have ez : z1 = 12 := ez.trans (by decide)
        rw [ez]
        refine lv_tableIn (off := 484) (tgt := 524) hx hb dL_law_40 (by decide) (by decide) (by decide) (by decide) ?_
        exact L_c12 l C0 hL31 hA hAr dC dI hZ hK hxi hi hl hX (fun cells slots H locs hX => nxt cells slots H locs ls hl hX.wk)
      ·
        have ez : z1 = 13 := ez.trans (by decide)
        rw [ez]
        refine lv_tableIn (off := 521) (tgt := 561) hx hb dL_law_40 (by decide) (by decide) (by decide) (by decide) ?_
        obtain ⟨v1, ev1⟩ : ∃ v, v = xs (xi + 1).toNatClampNeg := ⟨_, rfl⟩
        obtain ⟨v2, ev2⟩ : ∃ v, v = xs (xi + 2).toNatClampNeg := ⟨_, rfl⟩
        by_cases g1 : v1 < 0
        · exact L_c13_b1 l C0 hL31 hA hAr dC dI hZ hK hxi hi hl hT hl9 hX ev1 ev2 g1 nxt
        · by_cases g2 : v2 < 0
          · exact L_c13_b2 l C0 hL31 hA hAr dC dI hZ hK hxi hi hl hT hl9 hX ev1 ev2 g1 g2 nxt
          · by_cases g3 : v2 = 0
            · exact L_c13_z l C0 hL31 hA hAr dC dI hZ hK hxi hi hl hT hl9 hX ev1 ev2 g1 g3 nxt
            · exact L_c13_ok l C0 hL31 hA hAr dC dI hZ hK hxi hi hl hT hl9 hX ev1 ev2 g1 g2 g3 nxt
      ·
        have ez : z1 = 14 := ez.trans (by decide)
        rw [ez]
        refine lv_tableOut (tgt := 601) hx hb dL_law_40 (by decide) (by decide) ?_
        exact nxt cells slots H locs ls hl hX.wk
      ·
        have ez : z1 = 15 := ez.trans (by decide)
        rw [ez]
        refine lv_tableOut (tgt := 601) hx hb dL_law_40 (by decide) (by decide) ?_
        exact nxt cells slots H locs ls hl hX.wk
