/-! reading: sums and products -/
theorem AG.mid {t : Nat} {s w s1 u1 f : RS} {C : Nat → Bool} (hA : AG0 s w f) (hC : AGC s w C) (k1 : KP t s s1) (k2 : KP t s1 u1) (k3 : KP t u1 w) (hn : TN u1) (hg : goI w ≤ goI u1) : AG0 s1 u1 f ∧ AGC s1 u1 C := by
  refine ⟨AG0.comp (AG0.kp k3) hA k1.2.1.1 k1.2.2.1.1 k1.2.2.2.1.1 k1.2.2.2.2.1.1 k3.2.2.2.2.1.1 (fun k _ h2 ho => OPN.back k3 hn hg h2 ho), hC.mid k1 k2 k3.2.2.2.2.2.1.2.1 k3.2.2.2.2.1.1 (fun j hj => ?_) (fun j h1 h2 => (k3.2.2.2.2.1.2.2.2.2.2 j h1 h2).1)⟩
  unfold gv
  rw [k3.2.2.2.2.1.2.2.2.1 j hj]
theorem ENB.mid {t : Nat} {s w s1 u1 f : RS} {g : Gh} {v : Nat} {rs : List Rec} (h : ENB s w f g v rs) (k1 : KP t s s1) (he : s1.i 38 = s.i 38) (hc : cdI u1 ≤ cdI w) : ENB s1 u1 f g v rs := by
  obtain ⟨h1, h2⟩ := h
  have e : seI s1 = seI s := by unfold seI; rw [he]
  refine ⟨fun k hk => h1 k (by omega), fun x hx => ?_⟩
  rw [e] at hx
  have := h2 x hx
  unfold gv at this ⊢
  rw [k1.2.2.2.2.2.1.2.2.1 x hx, k1.2.2.2.2.2.1.2.2.2 x hx]
  exact this
theorem CX.up {s s1 : RS} {h o v : Nat} {rs : List Rec} (hc : CX s h o v rs) (h' : Nat) (hd : s1.i 52 = s.i 52) (hf : fr s ≤ fr s1) (h9 : fr s1 ≤ 900) (hh : (h' : Int) ≤ fr s1) : CX s1 h' o v rs := by
  obtain ⟨c1, c2, c3, c4, c5, c6, c7, c8⟩ := hc
  have hde : deI s1 = deI s := by unfold deI; rw [hd]
  exact ⟨by omega, hh, by omega, by omega, by omega, c6, h9, by omega⟩
/-- an instruction of the segment stands in what comes later -/
theorem AG0.cell {s w f : RS} (h : AG0 s w f) {k : Nat} (h1 : cdI s ≤ k) (h2 : (k : Int) < cdI w) {o x : Int32} (e1 : w.a 21 k = o) (e2 : w.a 22 k = x) (ho : ¬ o = 36) : gv f 21 k = o.toInt ∧ gv f 22 k = x.toInt ∧ gv f 23 k = gv w 23 k ∧ (k : Int) < cdI f := by
  obtain ⟨a1, a2, a3, a4, a5, a6, a7, a8⟩ := h
  obtain ⟨b1, b2, b3⟩ := a5 k h1 h2
  refine ⟨by unfold gv; rw [b1, e1], ?_, by unfold gv; rw [b2], by omega⟩
  unfold gv
  rw [b3 (fun ⟨γ, b, L, x1, x2, x3⟩ => ho (by rw [← e1]; exact x2.op k x3)), e2]
/-- two values, then an instruction that makes one of them -/
theorem TE.op {t : Nat} {s u u2 u3 : RS} {o9 x : Int32} (h1 : TE s u) (hk1 : KP t s u) (ht1 : TN u) (hk2 : KP t u u2) (h3 : TE u2 u3) (hk3 : KP t u2 u3) (ht3 : TN u3) (hc2 : cdI u2 = cdI u) (hc3 : cdI u3 < 3000) (hc0 : 0 ≤ cdI s) (hg1 : u.i 43 = u3.i 43) (e38 : u2.i 38 = s.i 38) (d2 : u2.i 52 = s.i 52) (d3 : u3.i 52 = s.i 52) (f2 : fr s + 1 ≤ fr u2) (f3 : fr u2 + 1 ≤ fr u3) (f9 : fr u3 ≤ 900) (ho : o9 = 8 ∨ o9 = 9) : TE s (EM u3 o9 x) := by
  intro f C hA hC h o v rs hx
  have c3p : 0 ≤ cdI u3 := by have := hk1.2.1.1; have := hk3.2.1.1; omega
  have hkw : KP t u3 (EM u3 o9 x) := (KP.rf t u3).em c3p hc3
  have hgw : goI (EM u3 o9 x) = goI u3 := rfl
  have hg : goI u3 = goI u := by unfold goI; rw [hg1]
  have ew := EM.cd (o := o9) (x := x) c3p hc3
  have hku : KP t u (EM u3 o9 x) := (hk2.tr hk3 (Nat.le_refl _)).tr hkw (Nat.le_refl _)
  have hks2 : KP t s u2 := hk1.tr hk2 (Nat.le_refl _)
  obtain ⟨A1, C1⟩ := AG.mid hA hC (KP.rf t s) hk1 hku ht1 (by omega)
  obtain ⟨A2, C2⟩ := AG.mid hA hC hks2 hk3 hkw ht3 (by omega)
  obtain ⟨x1, x2, x3, x4, x5, x6, x7, x8⟩ := id hx
  have c1 := h1 f C A1 C1 h o v rs hx
  have c2 := h3 f C A2 C2 (h + 1) o v rs (hx.up (h + 1) d2 (by omega) (by omega) (by omega))
  have ek : ((cdI u3).toNat : Int) = cdI u3 := Int.toNat_of_nonneg c3p
  have hle : cdI s ≤ cdI u3 := by have := hk1.2.1.1; have := hk3.2.1.1; omega
  obtain ⟨g1, g2, g3, g4⟩ := hA.cell (k := (cdI u3).toNat) (o := o9) (x := x) (by omega) (by omega) (by rw [EM.a21, if_pos rfl]) (by rw [EM.a22, if_pos rfl]) (by rcases ho with rfl | rfl <;> decide)
  have c3 : COD f C (cdI u3).toNat (h + 1 + 1) o v rs (fun g => ENB s (EM u3 o9 x) f g v rs ∧ FL f g v (cdI (EM u3 o9 x)) (cdI (EM u3 o9 x)) (h + 1) o rs) := by
    refine COD.ins (hx.up (h + 1 + 1) d3 (by omega) f9 (by omega)) g4 (fun g _ hE => ?_)
    obtain ⟨⟨e1, e2⟩, e3⟩ := hE
    refine ⟨?_, e1 _ (by omega)⟩
    rw [ew, ← ek] at e3
    have h2' : 2 ≤ Ctx.h (h + 1 + 1, o, v, false, rs) := by show 2 ≤ h + 1 + 1; omega
    rcases ho with rfl | rfl
    · exact okJ_8 (c := (h + 1 + 1, o, v, false, rs)) g1 ⟨h2', e3⟩
    · exact okJ_9 (c := (h + 1 + 1, o, v, false, rs)) g1 ⟨h2', e3⟩
  have c23 := COD.seq (E := fun g => ENB s (EM u3 o9 x) f g v rs ∧ FL f g v (cdI (EM u3 o9 x)) (cdI (EM u3 o9 x)) (h + 1) o rs) c2.cod c3 (fun g _ hE => hE) (fun g _ hE hF => ⟨hE.1.mid hks2 e38 (by omega), by rw [ek] at hF; exact hF⟩)
  refine CODS.seq c1 c23 (fun g _ hE => hE) (fun g _ hE hF => ⟨hE.1.mid (KP.rf t s) rfl (by have := hku.2.1.1; omega), by rw [hc2] at hF; exact hF⟩)
/-- what stands at a frame's later states -/
def PM (t : Nat) (s u : RS) : Prop := INV u ∧ tpI u = t ∧ KP t s u ∧ SAME s u ∧ u.i 38 = s.i 38 ∧ RATE s u ∧ fr s + 1 ≤ fr u ∧ tkI s + 1 ≤ tkI u ∧ (¬ 0 ≤ u.i 18 → TE s u) ∧ JT s u
theorem RATE.rf (s : RS) : RATE s s := by unfold RATE; omega
theorem RATE.tr {s u w : RS} (h1 : RATE s u) (h2 : RATE u w) : RATE s w := by unfold RATE at *; omega
theorem SAME.tr {s u w : RS} (h1 : SAME s u) (h2 : SAME u w) : SAME s w := ⟨h2.1.trans h1.1, h2.2.1.trans h1.2.1, h2.2.2.1.trans h1.2.2.1, h2.2.2.2.trans h1.2.2.2⟩
theorem TBL.rate {u w : RS} (h : TBL u w) (hf : fr u ≤ fr w) (ht : tkI w - tkI u ≤ fr w - fr u) : RATE u w := by
  unfold RATE
  rw [h.cd, h.en, h.tt, h.ca, h.sl, h.pe]
  omega
theorem TBL.i63 (u : RS) (v : Int32) : TBL u (u.setI 63 v) := ⟨fun _ _ => rfl, rfl, fun _ _ _ h _ => if_neg h⟩
theorem INV.i63 {u : RS} (h : INV u) (v : Int32) : INV (u.setI 63 v) := h.tbl (TBL.i63 u v) h.1 h.2.2.1 rfl rfl h.2.2.2.1.2.2.2.2.2.2.2.2.2 (Int.le_refl _) h.2.2.2.2.2.2.2.2.2.2.2.2.2.2.2
/-- the frame is done -/
theorem PM.pop {t : Nat} {s u : RS} (h : PM t s u) (h9 : t < 1000) : PE t s (u.setI 63 (u.i 63 - 1)) := by
  obtain ⟨a1, a2, a3, a4, a5, a6, a7, a8, a9, a10⟩ := h
  exact ⟨a1.i63 _, tp_sub a2 h9, a3.tbl (TBL.i63 u _) id (fun k k1 k2 j hj => rfl), a4, a5, a6.tr ((TBL.i63 u _).rate (Int.le_refl _) (by show tkI u - tkI u ≤ fr u - fr u; omega)), a7, a8, fun h => (a9 h).tbl (TBL.rf s) (TBL.i63 u _) rfl rfl, a10⟩
