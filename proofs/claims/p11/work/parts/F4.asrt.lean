/-! reading: what begins with a name: the frame; assert -/
def RUNN (N b : Nat) : Prop := ∀ (n : Nat) (s u : RS) (t : Nat) (P : RS → Prop), INV s → PRS s → tpI s = t → INV u → KP t s u → TBL s u → u.i 19 = s.i 19 → u.i 52 = s.i 52 → fr u = fr s → tkI u = tkI s → (∀ k : Nat, k ≠ 64 → u.a k = s.a k) → u.a 64 t = 5 → u.a 65 t = 0 → u.i 10 = 2 → tpI u = t → t < 998 → 2 * (t : Int) ≤ fr s + 12 * op s + 2 → 900 - fr s ≤ b → 36000 + 29 ≤ (n : Int) + 1 + 40 * fr s → 1 ≤ n → (∀ u, FS' s u → P u) → (∀ (m : Nat) (u : RS), PS t s u → fr s + 1 ≤ fr u → (n : Int) + 1 + 40 * fr s + 11 ≤ m + 40 * fr u → ok (f_X12_parse_10 N m u) P) → ok (f_X12_parse_10 N (n + 1) u) P
theorem run_named {N b : Nat} (hN : 4000 ≤ N) (hx : 1 ≤ b → RUNE N 16 4 11 24 (b - 1)) (hs : 1 ≤ b → RUNS N (b - 1)) : RUNN N b := by
  intro n s u t P hI hp ht iu ku tu e19 e52 fu tku au u64 u65 u10 tpu h9 hb hc hn n1 hF hC
  have hN1 : 1000 ≤ N := by omega
  have hf := hI.1.f0
  refine lp_5 tpu (by omega) iu.2.2.1 u64 ?_
  unfold f_X12_named
  rw [if_pos (tp_ib tpu (by omega)), tp_nat tpu, if_neg (by rw [u65]; decide), if_neg (by rw [u65]; decide)]
  obtain ⟨R, eR, x1, x2, x3, x4, x5, x6, x7⟩ := NX hN1 iu (by rw [u10]; decide)
  rw [eR]
  have kR : KP t s R := ku.lx x1
  have tb : TBL s R := tu.tr x1.tbl
  have mR : MM t s R := by
    refine ⟨x4, x1.tp.trans tpu, kR, ⟨x3.trans e19, tb.2.2 43 (by omega) (by omega) (by omega) (by omega), (x1.2.2.1 52 (by omega) (by omega)).trans e52, tb.2.2 56 (by omega) (by omega) (by omega) (by omega)⟩, tb.2.2 38 (by omega) (by omega) (by omega) (by omega), tb.rate (by omega) (by omega), by omega, by omega⟩
  have cR : cdI R = cdI s := tb.cd
  have aR : ∀ k : Nat, k ≠ 64 → R.a k = s.a k := fun k hk => by rw [x1.1]; exact au k hk
  have R64 : R.a 64 t = 5 := by rw [x1.1]; exact u64
  have ei : u.i 63 = R.i 63 := x1.i63.symm
  rw [ei]
  show ok ((if (R.i 10) = 58 then (f_X12_label N R (R.i 63) u.l (u.i 11)).bind fun p36 => some p36 else (f_X12_got N R u.l (u.i 11)).bind fun p7 => (if (p7.2.i 15) = 0 then (if (p7.2.i 10) = 61 then (f_X12_can N p7.2 1).bind fun p11 => (if p11.1 = 0 then some p11.2 else f_X12_named_183 N p11.2 (R.i 63) p7.1) else (if (p7.2.i 10) = 307 then (f_X12_can N p7.2 1).bind fun p33 => (if p33.1 = 0 then some p33.2 else f_X12_named_183 N p33.2 (R.i 63) p7.1) else (f_X12_can N p7.2 0).bind fun p30 => (if p30.1 = 0 then some p30.2 else f_X12_named_183 N p30.2 (R.i 63) p7.1))) else some p7.2) : Option RS).bind fun p => f_X12_parse_10 N n p) P
  have flt : ∀ S, LX R S → ¬ S.i 15 = 0 → FS' s S := fun S h1 h2 => FS'.of kR.1.1 h1 h2 x4.r
  by_cases c58 : R.i 10 = 58
  · rw [if_pos c58, bind_some]
    exact NAM2 hN hs u.l (u.i 11) hI hp h9 hb hc (by omega) hF mR cR aR R64 c58 (fun m' w hw hfw hm => hC m' w hw (by omega) (by omega))
  rw [if_neg c58]
  obtain ⟨p, ep, hp2⟩ := GOT hN1 x4 u.l (u.i 11)
  rw [ep]
  show ok ((if (p.2.i 15) = 0 then (if (p.2.i 10) = 61 then (f_X12_can N p.2 1).bind fun p11 => (if p11.1 = 0 then some p11.2 else f_X12_named_183 N p11.2 (R.i 63) p.1) else (if (p.2.i 10) = 307 then (f_X12_can N p.2 1).bind fun p33 => (if p33.1 = 0 then some p33.2 else f_X12_named_183 N p33.2 (R.i 63) p.1) else (f_X12_can N p.2 0).bind fun p30 => (if p30.1 = 0 then some p30.2 else f_X12_named_183 N p30.2 (R.i 63) p.1))) else some p.2 : Option RS).bind fun p => f_X12_parse_10 N n p) P
  rcases hp2 with ⟨q1, q2⟩ | ⟨q1, q2⟩
  · rw [if_neg q1]
    exact lp_f q1 (hF _ (flt _ q2 q1)) n1
  · rw [q1, if_pos x4.2.2.1]
    have sl : SLT s p.1 := q2.eq mR.2.2.2.2.1 (aR 40 (by decide)) (aR 41 (by decide))
    have go : (R.i 10 = 61 ∨ R.i 10 = 307) → ok (((f_X12_can N R 1).bind fun p11 => (if p11.1 = 0 then some p11.2 else f_X12_named_183 N p11.2 (R.i 63) p.1) : Option RS).bind fun p => f_X12_parse_10 N n p) P := fun hq => by
      rw [can1 x4.2.2.1 (by rcases hq with h | h <;> (rw [h]; decide))]
      show ok ((if (1 : Int32) = 0 then some R else f_X12_named_183 N R (R.i 63) p.1 : Option RS).bind fun p => f_X12_parse_10 N n p) P
      rw [if_neg (by decide)]
      exact NAM1 hN1 hx hI h9 hb hc hn hF hC mR cR R64 sl hq
    by_cases c61 : R.i 10 = 61
    · rw [if_pos c61]; exact go (Or.inl c61)
    rw [if_neg c61]
    by_cases c307 : R.i 10 = 307
    · rw [if_pos c307]; exact go (Or.inr c307)
    rw [if_neg c307]
    obtain ⟨S, eS, h1, h2⟩ := can0 (N := N) x4.1 x4.2.2.1
    rw [eS]
    exact lp_f h2 (hF S (flt S h1 h2)) n1
theorem TS.assert {t : Nat} {s A v1 M v2 W : RS} {x9 : Int32} (hI : INV s) (kA : KP t s A) (cA : cdI A = cdI s + 2) (A21 : A.a 21 (cdI s).toNat = 1) (A21' : A.a 21 (cdI s + 1).toNat = 22) (A38 : A.i 38 = s.i 38) (A52 : A.i 52 = s.i 52) (fA : fr s ≤ fr A) (te : TE A v1) (k1 : KP t A v1) (i1 : INV v1) (d1 : v1.i 52 = s.i 52) (f1 : fr A + 1 ≤ fr v1) (gv1 : goI v1 = goI s) (kM : KP t v1 M) (cM : cdI M = cdI v1 + 1) (M21 : M.a 21 (cdI v1).toNat = 14) (M38 : M.i 38 = s.i 38) (M52 : M.i 52 = s.i 52) (fM : fr v1 ≤ fr M) (te2 : TE M v2) (k2 : KP t M v2) (tn2 : TN v2) (gM : goI v2 = goI s) (d2 : v2.i 52 = s.i 52) (f2 : fr M ≤ fr v2) (f9 : fr v2 ≤ 900) (cv2 : cdI v2 < 3000) (lt2 : cdI M ≤ cdI v2) (hx9 : x9.toInt = cdI v2 + 1)
  (we : EQT v2 W) (wc : cdI W = cdI v2 + 1) (wg : goI W = goI v2) (w21 : ∀ k : Nat, (k : Int) < cdI v2 → W.a 21 k = v2.a 21 k ∧ W.a 23 k = v2.a 23 k) (w22 : ∀ k : Nat, (k : Int) < cdI v2 → k ≠ (cdI s + 1).toNat → k ≠ (cdI v1).toNat → W.a 22 k = v2.a 22 k) (wk1 : W.a 22 (cdI s + 1).toNat = x9) (wk2 : W.a 22 (cdI v1).toNat = x9) (w19 : W.a 21 (cdI v2).toNat = 19) (wx : W.a 22 (cdI v2).toNat = 3) (i3 : 4 ≤ (W.i 3).toInt) (hr : W.i 75 = 1) : TS s W := by
  intro f C hA hC h o lv rs hx hy
  have cs := hI.cd
  have c1' := i1.cd
  have fv1 := i1.1.f0
  have le1 := k1.2.1.1
  have ek1 : ((cdI s + 1).toNat : Int) = cdI s + 1 := Int.toNat_of_nonneg (by omega)
  have ekv : ((cdI v1).toNat : Int) = cdI v1 := Int.toNat_of_nonneg c1'.1
  have ek2 : ((cdI v2).toNat : Int) = cdI v2 := Int.toNat_of_nonneg (by omega)
  have kv12 : KP t v1 v2 := kM.tr k2 (Nat.le_refl _)
  have e21a : v2.a 21 (cdI s + 1).toNat = 22 := by rw [kv12.2.1.2.1 _ (by omega), k1.2.1.2.1 _ (by omega)]; exact A21'
  have e21b : v2.a 21 (cdI v1).toNat = 14 := by rw [k2.2.1.2.1 _ (by omega)]; exact M21
  have hc : CHN v2 W := fun γ b L x hγ hI' hx' => by
    obtain ⟨Mm, m1, m2⟩ := tn2 γ b (by omega)
    have e := ISCH.uniq hI' m1
    subst e
    have hlt := m2 x hx'
    have h36 := hI'.op x hx'
    refine ⟨(w21 x hlt).1, w22 x hlt (fun e => ?_) (fun e => ?_)⟩
    · rw [e, e21a] at h36; exact absurd h36 (by decide)
    · rw [e, e21b] at h36; exact absurd h36 (by decide)
  have L1 : LAT noZ A v1 W := (((LAT.rf noZ A v1).kp kv12 i1.tn (by omega))).fin we hc tn2 (by omega) (by omega) (fun k k1' k2' => ⟨(w21 k (by omega)).1, (w21 k (by omega)).2, fun _ => w22 k (by omega) (by omega) (by omega)⟩)
  have L2 : LAT noZ M v2 W := (LAT.rf noZ M v2).fin we hc tn2 (by omega) (by omega) (fun k k1' k2' => ⟨(w21 k (by omega)).1, (w21 k (by omega)).2, fun _ => w22 k (by omega) (by omega) (by omega)⟩)
  have ksM : KP t s M := (kA.tr k1 (Nat.le_refl _)).tr kM (Nat.le_refl _)
  obtain ⟨A1, C1⟩ := L1.use hA hC kA k1
  obtain ⟨A2, C2⟩ := L2.use hA hC ksM k2
  have hx2 := hx.2.1
  have c1 := te f C A1 C1 h o lv rs (hx.up h A52 fA (by omega) (by omega))
  have c2 := te2 f C A2 C2 h o lv rs (hx.up h M52 (by omega) (by omega) (by omega))
  obtain ⟨p1, p2, p3, p4⟩ := hA.cell (k := (cdI s + 1).toNat) (o := 22) (x := x9) (by omega) (by omega) (by rw [(w21 _ (by omega)).1]; exact e21a) wk1 (by decide)
  obtain ⟨q1, q2, q3, q4⟩ := hA.cell (k := (cdI v1).toNat) (o := 14) (x := x9) (by omega) (by omega) (by rw [(w21 _ (by omega)).1]; exact e21b) wk2 (by decide)
  obtain ⟨r1, r2, r3, r4⟩ := hA.cell (k := (cdI v2).toNat) (o := 19) (x := 3) (by omega) (by omega) w19 wx (by decide)
  have e3 : (3 : Int32).toInt = 3 := by decide
  have hi3 := hA.2.2.2.1
  have cR : COD f C (cdI v2).toNat (h + 1) o lv rs (ENS s W f h o lv rs) := COD.ins (hx.up (h + 1) d2 (by omega) f9 (by omega)) r4 (fun g _ hE => ⟨okJ_19 (c := (h + 1, o, lv, false, rs)) r1 ⟨by show 1 ≤ h + 1; omega, by rw [r2, e3]; omega⟩, hE.1.1 _ (by omega)⟩)
  have cm : COD f C (cdI M) h o lv rs (ENS s W f h o lv rs) := COD.seq c2.cod cR (fun g _ hE => hE) (fun g _ hE hF => ⟨hE.1.mid ksM M38 (by omega), by rw [ek2] at hF; exact hF⟩)
  have exit : ∀ g : Gh, ENS s W f h o lv rs g → ∀ kk : Int, kk ≤ cdI W → FL f g lv kk x9.toInt h o rs := fun g hE kk hk => by
    rw [hx9, ← wc]
    exact (hE.2.1 hr).mono (Nat.le_refl _) hk
  have cj : COD f C (cdI v1).toNat (h + 1) o lv rs (ENS s W f h o lv rs) := by
    have c14 : COD f C (cdI v1).toNat (h + 1) o lv rs (fun g => ENS s W f h o lv rs g ∧ FL f g lv (cdI M) (cdI M) h o rs) := by
      refine COD.ins (hx.up (h + 1) d1 (by omega) (by omega) (by omega)) q4 (fun g _ hE => ⟨?_, hE.1.1.1 _ (by omega)⟩)
      have hF1 : FL f g lv (((cdI v1).toNat : Int) + 1) (((cdI v1).toNat : Int) + 1) h o rs := by
        have := hE.2
        rw [cM] at this
        rw [ekv]; exact this
      exact okJ_14 (c := (h + 1, o, lv, false, rs)) q1 ⟨by show 1 ≤ h + 1; omega, by rw [q2]; exact exit g hE.1 _ (by omega), fun _ => hF1⟩
    exact COD.seq c14 cm (fun g _ hE => hE) (fun g _ hE hF => ⟨hE, hF⟩)
  have cc : COD f C (cdI A) h o lv rs (ENS s W f h o lv rs) := COD.seq c1.cod cj (fun g _ hE => hE) (fun g _ hE hF => ⟨hE.1.mid kA A38 (by omega), by rw [ekv] at hF; exact hF⟩)
  have ca : COD f C (cdI s + 1).toNat h o lv rs (ENS s W f h o lv rs) := by
    have c22 : COD f C (cdI s + 1).toNat h o lv rs (fun g => ENS s W f h o lv rs g ∧ FL f g lv (cdI A) (cdI A) h o rs) := by
      refine COD.ins hx p4 (fun g _ hE => ⟨?_, hE.1.1.1 _ (by omega)⟩)
      have hF1 : FL f g lv (((cdI s + 1).toNat : Int) + 1) (((cdI s + 1).toNat : Int) + 1) h o rs := by
        have := hE.2
        rw [cA] at this
        have e : (((cdI s + 1).toNat : Int) + 1) = cdI s + 2 := by omega
        rw [e]; exact this
      exact okJ_22 (c := (h, o, lv, false, rs)) p1 ⟨by rw [p2]; exact exit g hE.1 _ (by omega), hF1⟩
    exact COD.seq c22 cc (fun g _ hE => hE) (fun g _ hE hF => ⟨hE, hF⟩)
  rw [ek1] at ca
  refine COD.step hA hx cs.1 (by omega) ?_ (fun g _ hE => hE.1.1) ca
  rw [(w21 _ (by omega)).1, kv12.2.1.2.1 _ (by omega), k1.2.1.2.1 _ (by omega)]
  exact A21
