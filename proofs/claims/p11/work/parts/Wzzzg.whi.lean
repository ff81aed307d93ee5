/-! both readers: a while's end -/
theorem E22.mono {F G : Nat → Prop} {s u : RS} (h : E22 F s u) (m : ∀ k : Nat, F k → G k) : E22 G s u := ⟨h.1, h.2.1, h.2.2.1, h.2.2.2.1, fun j hj => h.2.2.2.2 j (fun z => hj (m j z))⟩
theorem FRE.mv {S : CS} {s u : RS} {L : List CEL} {col : Nat → Option (Nat × Bool)} {b20 : Int} {k : Nat} (h : FRE S s L col b20 k) (e : ∀ q ∈ L, u.a 66 (ceT q) = s.a 66 (ceT q)) : FRE S u L col b20 k := ⟨h.1, h.2.1, fun q hq t => by
  rw [e q hq]
  exact h.2.2 q hq t⟩
theorem CKZ.rf (S : CS) : CKZ S S := (CKX.rf S).z
/-- as COR.mv, but instructions may be fewer -/
theorem COR.mv3 {d : Int32} {B : CS} {b : RS} {t0 T : Nat} {L : List CEL} {x : Int} {S : CS} {s u : RS} (h : COR d B b t0 L x S s) (hin : INL S s T L) (hT : t0 ≤ T) (ev : ENV d S u) (f : FRB T s u) (tk : TBK s u) (q : (s.i 11).toInt ≤ (u.i 11).toInt ∧ phI b + PDM S L ≤ phI u ∧ (s.i 17).toInt ≤ (u.i 17).toInt ∧ (u.i 19).toInt = (s.i 19).toInt) : COR d B b t0 L x S u := by
  obtain ⟨t1, t2, t3, t4, t5, t6, t7, t8, t9, t10⟩ := tk.1.1
  have tbb := h.2.2.2.2.2.1.2.1
  have tb := tk.1.r
  have n8 := h.2.2.2.2.2.2.2.2.1.2.1
  refine h.mv2 hin hT ev f tb tk.2 ⟨t1, t2, t3, t8, t9, t10⟩ (CKZ.rf S) rfl rfl (fun y hy => (h.2.2.2.2.2.2.2.1.2.1 y hy).2) h.2.2.2.2.1.2.2.1 (by rw [t4]; exact tbb.1) (by rw [t5]; exact tbb.2.1) (by rw [t7]; exact tbb.2.2.1) ?_ ⟨Int.le_refl _, Int.le_refl _, Int.le_refl _⟩ q (by rw [t4]; omega)
  obtain ⟨⟨a1, a2⟩, a3⟩ := h.2.2.2.2.2.2.2.2.2.1
  unfold IAR
  rw [t5]
  refine ⟨⟨fun z => ?_, fun z => ?_⟩, a3⟩
  · obtain ⟨g, g1, g2⟩ := a1 z
    exact ⟨g, g1, (tb.2.1 g g1).1.trans g2⟩
  · obtain ⟨g, g1, g2⟩ := z
    exact a2 ⟨g, g1, (tb.2.1 g g1).1.symm.trans g2⟩
/-- an instruction laid after two chains are aimed: as if it were laid first -/
theorem lp_alt {N : Nat} {S : CS} {L : List CEL} {col : Nat → Option (Nat × Bool)} {b20 : Int} {g T pf : Nat} {s s1 q : RS} {y : Int32 × RS} {vc op x : Int32} (hc : COL S s L col b20) (h48 : (s.a 48 g).toInt < 0 ∨ ∃ j : Nat, (s.a 48 g).toInt = (j : Int) ∧ col j = some (g, true)) (h49 : (s.a 49 g).toInt < 0 ∨ ∃ j : Nat, (s.a 49 g).toInt = (j : Int) ∧ col j = some (g, false)) (hpf : pf = 66 ∨ pf = 67) (n67 : col (s.a pf T).toNatClampNeg = none) (s67 : (((s.a pf T).toNatClampNeg : Nat) : Int) < (s.i 20).toInt) (h20 : 0 ≤ (s.i 20).toInt ∧ (s.i 20).toInt < 3000) (hp1 : f_X12_patch N s (s.a 49 g) vc = some s1) (hy : f_X12_emit N s1 op x = some y) (hp2 : f_X12_patch N (RS.setA y.2 22 (y.2.a pf T).toNatClampNeg (y.2.i 20)) (y.2.a 48 g) (y.2.i 20) = some q) : ∃ (l1 l2 : List Nat) (u : RS), (lks s (s.a 48 g) l1 ∧ lks s (s.a 49 g) l2) ∧ S22 s u ∧ (∀ j ∈ l1, u.a 22 j = s.i 20 + 1) ∧ (∀ j ∈ l2, u.a 22 j = vc) ∧ u.a 22 (s.a pf T).toNatClampNeg = s.i 20 + 1 ∧ (∀ j : Nat, ¬ j ∈ l1 → ¬ j ∈ l2 → ¬ j = (s.a pf T).toNatClampNeg → u.a 22 j = s.a 22 j) ∧ (∀ u' : RS, u'.i 20 = u.i 20 → u'.a = u.a → ∃ z : Int32 × RS, f_X12_emit N u' op x = some z ∧ z.2.a = q.a ∧ z.2.i 20 = q.i 20 ∧ ∀ k : Nat, k ≠ 20 → z.2.i k = u'.i k) ∧ q.i 20 = s.i 20 + 1 ∧ (∀ k : Nat, k ≠ 20 → q.i k = s.i k) ∧ (∀ k : Nat, ¬ (21 ≤ k ∧ k ≤ 23) → q.a k = s.a k) := by
  obtain ⟨l2, a1, a2, ⟨a3, a4, a5, a6⟩, a7, a8⟩ := pt_ex hc h49 hp1
  obtain ⟨p, hp⟩ : ∃ p : Nat, p = (s.i 20).toNatClampNeg := ⟨_, rfl⟩
  have pI : (p : Int) = (s.i 20).toInt := by rw [hp]; exact Int.toNat_of_nonneg h20.1
  have e3 : (3000 : Int32).toInt = 3000 := by decide
  have nle : ¬ (3000 : Int32) ≤ s.i 20 := fun z => by
    have := le_int z
    omega
  have ibs : ib (s.i 20) 3000 := ⟨by omega, by omega⟩
  have em : ∀ σ : RS, σ.i 20 = s.i 20 → f_X12_emit N σ op x = some (s.i 20, RS.setI (RS.setA (RS.setA (RS.setA σ 21 p op) 22 p x) 23 p 0) 20 (s.i 20 + 1)) := fun σ e => by
    unfold f_X12_emit f_X12_emit_21
    rw [e, if_neg nle, if_pos ibs, ← hp]
  have eqA : ∀ (σ τ : RS) (w : Int32) (k : Nat), k ≠ 22 → σ.a k = τ.a k → (RS.setI (RS.setA (RS.setA (RS.setA σ 21 p op) 22 p x) 23 p 0) 20 w).a k = (RS.setI (RS.setA (RS.setA (RS.setA τ 21 p op) 22 p x) 23 p 0) 20 w).a k := fun σ τ w k hk h => by
    show (RS.setA (RS.setA (RS.setA σ 21 p op) 22 p x) 23 p 0).a k = (RS.setA (RS.setA (RS.setA τ 21 p op) 22 p x) 23 p 0).a k
    funext j
    by_cases k3 : k = 23
    · subst k3
      by_cases hj : j = p
      · rw [hj, setA_at, setA_at]
      · have z : ∀ σ : RS, (RS.setA (RS.setA (RS.setA σ 21 p op) 22 p x) 23 p 0).a 23 j = σ.a 23 j := fun σ => (setA_ne hj).trans (by rw [setA_nk (show (23 : Nat) ≠ 22 by decide), setA_nk (show (23 : Nat) ≠ 21 by decide)])
        rw [z, z, h]
    · rw [setA_nk k3, setA_nk k3, setA_nk hk, setA_nk hk]
      by_cases k1 : k = 21
      · subst k1
        by_cases hj : j = p
        · rw [hj, setA_at, setA_at]
        · rw [setA_ne hj, setA_ne hj, h]
      · rw [setA_nk k1, setA_nk k1, h]
  have eqB : ∀ (σ : RS) (w : Int32), (RS.setI (RS.setA (RS.setA (RS.setA σ 21 p op) 22 p x) 23 p 0) 20 w).a 22 p = x ∧ ∀ j : Nat, ¬ j = p → (RS.setI (RS.setA (RS.setA (RS.setA σ 21 p op) 22 p x) 23 p 0) 20 w).a 22 j = σ.a 22 j := fun σ w => by
    refine ⟨?_, fun j hj => ?_⟩
    · show (RS.setA (RS.setA (RS.setA σ 21 p op) 22 p x) 23 p 0).a 22 p = x
      rw [setA_nk (by decide), setA_at]
    · show (RS.setA (RS.setA (RS.setA σ 21 p op) 22 p x) 23 p 0).a 22 j = _
      rw [setA_nk (by decide), setA_ne hj, setA_nk (by decide)]
  rw [em s1 (by rw [a3])] at hy
  have hy' := Option.some.inj hy
  have yi : ∀ k : Nat, k ≠ 20 → y.2.i k = s.i k := by
    rw [← hy']
    intro k hk
    exact (if_neg hk).trans (congrFun a3 k)
  have y20 : y.2.i 20 = s.i 20 + 1 := by
    rw [← hy']
    rfl
  have y22 : y.2.a 22 p = x ∧ ∀ j : Nat, ¬ j = p → y.2.a 22 j = s1.a 22 j := by
    rw [← hy']
    exact eqB s1 _
  have ya : ∀ k : Nat, ¬ (21 ≤ k ∧ k ≤ 23) → y.2.a k = s.a k := by
    rw [← hy']
    intro k hk
    show (RS.setA (RS.setA (RS.setA s1 21 p op) 22 p x) 23 p 0).a k = s.a k
    rw [setA_nk (by omega), setA_nk (by omega), setA_nk (by omega)]
    exact a6 k (by omega)
  have yA : ∀ τ : RS, (∀ k : Nat, k ≠ 22 → τ.a k = s.a k) → ∀ k : Nat, k ≠ 22 → (RS.setI (RS.setA (RS.setA (RS.setA τ 21 p op) 22 p x) 23 p 0) 20 (s.i 20 + 1)).a k = y.2.a k := by
    rw [← hy']
    intro τ h k hk
    exact eqA τ s1 _ k hk ((h k hk).trans (a6 k hk).symm)
  clear hy hy' eqA
  rw [ya pf (by omega), ya 48 (by omega), y20] at hp2
  obtain ⟨st, hst⟩ : ∃ n : Nat, n = (s.a pf T).toNatClampNeg := ⟨_, rfl⟩
  rw [← hst] at hp2 n67 s67 ⊢
  obtain ⟨σ, hσ⟩ : ∃ z, z = RS.setA y.2 22 st (s.i 20 + 1) := ⟨_, rfl⟩
  rw [← hσ] at hp2
  have si : σ.i = y.2.i := by rw [hσ]; rfl
  have sa : ∀ k : Nat, k ≠ 22 → σ.a k = y.2.a k := by rw [hσ]; exact fun k hk => setA_nk hk
  have ss : σ.a 22 st = s.i 20 + 1 := by rw [hσ]; exact setA_at
  have sn : ∀ j : Nat, ¬ j = st → σ.a 22 j = y.2.a 22 j := by rw [hσ]; exact fun j hj => setA_ne hj
  clear hσ
  have cl : ∀ (j : Nat) (z : Nat × Bool), col j = some z → ¬ j = st ∧ ¬ j = p := fun j z hz => by
    refine ⟨fun e => ?_, fun e => ?_⟩
    · rw [e, n67] at hz
      cases hz
    · have := (hc.1 j z hz).2
      omega
  obtain ⟨l1, b1, b2, ⟨b3, b4, b5, b6⟩, b7, b8⟩ := pt_l (P := fun k => col k = some (g, true)) (s := s) (fun k hk => hc.2.1 k _ hk) N σ q (s.i 20 + 1) (s.a 48 g) (fun j pj _ => by
    obtain ⟨c1, c2⟩ := cl j _ pj
    rw [sn j c1, y22.2 j c2, a8 j (fun z => by
      have z1 := a2 j z
      rw [pj] at z1
      cases z1)]) h48 hp2
  obtain ⟨u, hu⟩ : ∃ u : RS, u = (s.i, s.l, va_up s.a 22 (fun j => if j = p then s.a 22 j else q.a 22 j), s.b) := ⟨_, rfl⟩
  have ui : u.i = s.i := by rw [hu]; rfl
  have ua : ∀ k : Nat, k ≠ 22 → u.a k = s.a k := by
    rw [hu]
    intro k hk
    exact if_neg hk
  have u22 : ∀ j : Nat, ¬ j = p → u.a 22 j = q.a 22 j := by
    rw [hu]
    intro j hj
    exact if_neg hj
  have u2p : u.a 22 p = s.a 22 p := by
    rw [hu]
    exact if_pos rfl
  clear hu
  have stp : ¬ st = p := by omega
  have stl : ¬ st ∈ l1 := fun z => (cl st _ (b2 st z).1).1 rfl
  have pl1 : ¬ p ∈ l1 := fun z => (cl p _ (b2 p z).1).2 rfl
  refine ⟨l1, l2, u, ⟨b1, a1⟩, ⟨ui, ua⟩, fun j hj => ?_, fun j hj => ?_, ?_, fun j n1 n2 n3 => ?_, fun u' e20 eA => ?_, ?_, fun k hk => ?_, fun k hk => ?_⟩
  · rw [u22 j (cl j _ (b2 j hj).1).2]
    exact b7 j hj
  · obtain ⟨c1, c2⟩ := cl j _ (a2 j hj)
    rw [u22 j c2, b8 j (fun z => by
      have z1 := (b2 j z).1
      have z2 := a2 j hj
      rw [z2] at z1
      cases z1), sn j c1, y22.2 j c2]
    exact a7 j hj
  · rw [u22 st stp, b8 st stl]
    exact ss
  · by_cases hj : j = p
    · rw [hj]
      exact u2p
    · rw [u22 j hj, b8 j n1, sn j n3, y22.2 j hj]
      exact a8 j n2
  · refine ⟨_, em u' (by rw [e20, ui]), ?_, ?_, fun k hk => if_neg hk⟩
    · funext k
      by_cases k2 : k = 22
      · subst k2
        funext j
        obtain ⟨z1, z2⟩ := eqB u' (s.i 20 + 1)
        by_cases hj : j = p
        · rw [hj]
          refine z1.trans ?_
          rw [b8 p pl1, sn p (fun z => stp z.symm)]
          exact y22.1.symm
        · refine (z2 j hj).trans ?_
          rw [eA]
          exact u22 j hj
      · refine (yA u' (fun k hk => by rw [eA]; exact ua k hk) k k2).trans ?_
        rw [b6 k k2, sa k k2]
    · rw [b3, si, y20]
      rfl
  · rw [b3, si]
    exact y20
  · rw [b3, si]
    exact yi k hk
  · rw [b6 k (by omega), sa k (by omega)]
    exact ya k hk
/-- what is known behind a loop's jump back -/
def KLP (U : RS) (r : RVW) (S : CS) (s : RS) (vb vc vs w x : Int32) (pc pr : Nat) : JKT := fun FC SF nm X ω j Z => ((cTg SF (r.1 9)).toInt = ((pcC S + 1 : Nat) : Int) ∧ PQX SF U (pcC S) (pcR s) ∧ (SF.a 15 (pcC S) = 30 ∧ SF.a 16 (pcC S) = w) ∧ (U.a 21 (pcR s) = 15 ∧ U.a 22 (pcR s) = x) ∧ pc = pcC S + 1 ∧ pr = pcR s + 1) ∧ KCL U r S s vb vc vs FC SF nm X ω j Z
theorem JRG.lop {N : Nat} {A : JBA} {U : RS} {B : CS} {b : RS} {V : List RVW} {S : CS} {s u : RS} {r : RVW} {vb vc vs w x : Int32} {e : Int} {p36 p41 : Unit × CS} {z : Int32 × RS} (j0 : JRG A U B b V u [tv (r.1 9)] (KCL U r S s vb vc vs) (-1) e S u) (pr : pcR u = pcR s) (e36 : f_X0_add N S 30 w = some p36) (h44 : (S.i 44).toInt ≤ 900) (hz : f_X12_emit N u 15 x = some z) (h20 : 0 ≤ (u.i 20).toInt ∧ (u.i 20).toInt < 3000) (e41 : f_X0_aim N p36.2 (r.1 9) = some p41) (he : e ≤ 100) : JRG A U B b V u [] (KLP U r S s vb vc vs w x (pcC p41.2) (pcR z.2)) 0 e p41.2 z.2 := by
  have pc : pcC p41.2 = pcC p36.2 := by unfold pcC f_X0_aim at *; cases e41; rfl
  have g44 : (p36.2.i 44).toInt ≤ 900 := by
    unfold f_X0_add at e36
    cases e36
    exact h44
  have j1 := j0.one (K' := fun FC SF nm X ω j Z => (PQX SF U (pcC S) (pcR s) ∧ (SF.a 15 (pcC S) = 30 ∧ SF.a 16 (pcC S) = w) ∧ (U.a 21 (pcR s) = 15 ∧ U.a 22 (pcR s) = x) ∧ pcC p36.2 = pcC S + 1 ∧ pcR z.2 = pcR s + 1) ∧ KCL U r S s vb vc vs FC SF nm X ω j Z) e36 h44 (by decide) hz h20 (fun FC SF nm X ω j Z q a1 a2 b1 b2 _ c1 c2 _ _ _ _ _ _ k => by
    rw [pr] at q b1 b2 c2
    exact ⟨⟨q, ⟨a1, a2⟩, ⟨b1, b2⟩, c1, c2⟩, k⟩)
  have j2 := JRG.aim (W1 := []) (W2 := []) (K' := KLP U r S s vb vc vs w x (pcC p41.2) (pcR z.2)) j1 e41 g44 he (fun FC SF nm X ω j Z h k => by
    obtain ⟨⟨q, a, b', c1, c2⟩, k⟩ := k
    exact ⟨⟨by rw [h, c1], q, a, b', by rw [pc, c1], c2⟩, k⟩)
  exact j2
/-- the head of a closing loop is good -/
theorem lop_fin {FC : Nat → Prop} {SF : CS} {U : RS} {nm : Nat → Nat → Prop} {X : Als} {ω : Nat} {j jh : JCT} {Z : Prop} {r : RVW} {S : CS} {s : RS} {vb vc x y : Int32} {G : GHT} {p0 q0 : Nat} (ct : (cTg SF x).toInt = (p0 : Int)) (l0 : p0 ≤ 1200) (cq : y.toInt = (q0 : Int)) (hY : ∀ Y : Als, S01 (GU FC SF U nm X) (GU FC SF U nm Y) → JRH FC SF U nm Y G noc noy ω r j → (isGo r.v → JGV FC SF U nm Y G ω r j s vb vc) → JCU FC SF U nm Y G ω r j S s → JHH FC SF U nm Y G ω r j) (hX : JRH FC SF U nm X G noc noy ω r j → (isGo r.v → JGV FC SF U nm X G ω r j s vb vc) → JCU FC SF U nm X G ω r j S s → Z) (h5 : ∀ Y : Als, JHH FC SF U nm Y G ω r j → HE5 FC SF U nm Y x y ω jh) (mk : ∀ Y : Als, S01 (GU FC SF U nm X) (GU FC SF U nm Y) → GU2 FC SF U nm Y p0 q0 jh.h (ω + jh.l + 1264 - p0) jh.c → JRH FC SF U nm Y G noc noy ω r j ∧ (isGo r.v → JGV FC SF U nm Y G ω r j s vb vc) ∧ JCU FC SF U nm Y G ω r j S s) : Z := by
  obtain ⟨P, hP⟩ : ∃ P : Als, P = fun p q h w g c => p = p0 ∧ q = q0 ∧ h = jh.h ∧ w = ω + jh.l + 1264 - p0 ∧ c = jh.c ∧ g ≤ 1 := ⟨_, rfl⟩
  have P1 : ∀ g : Nat, g ≤ 1 → P p0 q0 jh.h (ω + jh.l + 1264 - p0) g jh.c := fun g hg => by
    rw [hP]
    exact ⟨rfl, rfl, rfl, rfl, rfl, hg⟩
  have P2 : ∀ (p q h w g : Nat) (c : List Ent), P p q h w g c → p = p0 ∧ q = q0 ∧ h = jh.h ∧ w = ω + jh.l + 1264 - p0 ∧ c = jh.c ∧ g ≤ 1 := by
    rw [hP]
    exact fun _ _ _ _ _ _ z => z
  clear hP
  have ac := gu_acc2 (FC := FC) (s0 := SF) (r0 := U) (nm := nm) (X := X) (P := P) (fun p q h w g c z => (P2 p q h w g c z).2.2.2.2.2) (fun p q h w g c z => by
    obtain ⟨rfl, rfl, rfl, rfl, rfl, -⟩ := P2 p q h w g c z
    have sy : S01 (GU FC SF U nm X) (GU FC SF U nm (UN2 (G01 FC SF U nm X) P)) := fun _ _ _ _ _ _ l a => G01.up a l
    obtain ⟨a1, a2, a3⟩ := mk (UN2 (G01 FC SF U nm X) P) sy ⟨G01.new (P1 0 (by omega)), G01.new (P1 1 (by omega))⟩
    obtain ⟨p', q', e1, e2, -, e4⟩ := h5 _ (hY _ sy a1 a2 a3)
    have z1 : p' = p := by omega
    have z2 : q' = q := by omega
    rw [z1, z2] at e4
    exact e4)
  obtain ⟨a1, a2, a3⟩ := mk X (fun _ _ _ _ _ _ _ a => a) ⟨ac _ _ _ _ _ _ (P1 0 (by omega)), ac _ _ _ _ _ _ (P1 1 (by omega))⟩
  exact hX a1 a2 a3
set_option maxHeartbeats 1000000 in
/-- a while or a for closes: its code -/
theorem lp_code {N : Nat} {Aj : JBA} {d : Int32} {B : CS} {b : RS} {t0 hp : Nat} {L : List CEL} {x : Int} {S : CS} {s s1 q U : RS} {y : Int32 × RS} {c1 c : CEL} {p36 p41 : Unit × CS} (mA : JBM U Aj) (hC : COR d B b t0 (c1 :: c :: L) x S s) (h57 : S.o c1.2.1 0 = 205 ∨ S.o c1.2.1 0 = 207) (jw : JRW Aj U B b (vws S s (c1 :: c :: L)) S s) (h1 : 1 ≤ phI s) (hp1 : f_X12_patch N s (s.a 49 (ceG c1)) (s.a hp (ceT c1)) = some s1) (hy : f_X12_emit N s1 15 (s.a hp (ceT c1)) = some y) (hp2 : f_X12_patch N (RS.setA y.2 22 (y.2.a 67 (ceT c1)).toNatClampNeg (y.2.i 20)) (y.2.a 48 (ceG c1)) (y.2.i 20) = some q) (e36 : f_X0_add N S 30 (S.o c1.2.1 10) = some p36) (e41 : f_X0_aim N p36.2 (S.o c1.2.1 9) = some p41) : ∃ (u : RS) (ee : Int), S22 s u ∧ (ee ≤ 0 ∨ (ee ≤ 1 ∧ ¬ ALN (S.i 43))) ∧ JRG Aj U B b (vws S s (c :: L)) u [] (KLP U (vw S s c1) S s (s.i 20 + 1) (s.a hp (ceT c1)) (s.i 20 + 1) (S.o c1.2.1 10) (s.a hp (ceT c1)) (pcC p41.2) (pcR q)) 0 ee p41.2 q ∧ (q.i 20 = s.i 20 + 1 ∧ (∀ k : Nat, k ≠ 20 → q.i k = s.i k) ∧ ∀ k : Nat, ¬ (21 ≤ k ∧ k ≤ 23) → q.a k = s.a k) ∧ p41.2.i 43 = S.i 43 := by
  have hv := hC.1
  have go : isGo (S.o c1.2.1 0) := by
    rcases h57 with z | z
    · exact Or.inr (Or.inr (Or.inl z))
    · exact Or.inr (Or.inr (Or.inr (Or.inr (Or.inl z))))
  have lo : isLo (S.o c1.2.1 0) := by
    rcases h57 with z | z
    · exact Or.inl z
    · exact Or.inr (Or.inr (Or.inl z))
  obtain ⟨-, -, b0, col, hc⟩ := id hC.2.2.2.2.2.2.2.2.2.2
  obtain ⟨hx48, hx49⟩ := hc.2.2.1 c1 List.mem_cons_self go
  have pl7 := hc.2.2.2.2.2.2 c1 List.mem_cons_self (s.a 67 (ceT c1)).toInt (Or.inr (Or.inr ⟨h57, rfl⟩))
  have c7 := clampI (show 0 ≤ (s.a 67 (ceT c1)).toInt by have := pl7.1; omega)
  have p20 := hv.p20
  obtain ⟨l1, l2, u, ⟨k1, k2⟩, e22, x1, x2, x3, x4, x5, q20, qi, qa⟩ := lp_alt (pf := 67) (T := ceT c1) hc hx48 hx49 (Or.inr rfl) pl7.2.2.1 (by rw [c7]; exact pl7.2.1) ⟨p20.1, by omega⟩ hp1 hy hp2
  obtain ⟨z, hz, za, z20, zi⟩ := x5 u rfl rfl
  have hr0 : (vw S s c1).v = S.o c1.2.1 0 := rfl
  have nty : ¬ isTy (vw S s c1).v := fun z => by
    rw [hr0] at z
    unfold isTy at z
    rcases h57 with y | y <;> rw [y] at z <;> revert z <;> decide
  have r67 : (vw S s c1).2.1 67 = s.a 67 (ceT c1) := (vw_at (k := 67) ⟨by decide, by decide⟩)
  have si : ∀ k : Nat, rsite (vw S s c1) k ↔ (k : Int) = (s.a 67 (ceT c1)).toInt := fun k => by
    unfold rsite
    rw [hr0, r67]
    refine ⟨fun z => ?_, fun z => Or.inr (Or.inr (Or.inl ⟨h57, z⟩))⟩
    rcases z with ⟨z, -⟩ | ⟨z, -⟩ | ⟨-, z⟩ | ⟨z, -⟩
    · rcases h57 with y | y <;> rw [y] at z <;> exact absurd z (by decide)
    · rcases h57 with y | y <;> rw [y] at z <;> exact absurd z (by decide)
    · exact z
    · rcases h57 with y | y <;> rw [y] at z <;> exact absurd z (by decide)
  have gis := hC.gis
  have h44 : (S.i 44).toInt ≤ 900 := by
    rw [hv.p44.1]
    exact (i11_hi hv).2
  obtain ⟨ee, he1, he2⟩ := clo_e (S.i 43)
  have rt : rtgs (vw S s c1) = [(vw S s c1).1 9] := by
    unfold rtgs
    rw [hr0]
    rcases h57 with y | y
    · rw [y, if_neg (by decide), if_pos (by decide)]
    · rw [y, if_neg (by decide), if_pos (by decide)]
  have j0 := JRW.clo (V := vws S s (c :: L)) (r := vw S s c1) (u := u) (u' := u) (S' := S) (l1 := l1) (l2 := l2) (vb := s.i 20 + 1) (vc := s.a hp (ceT c1)) (vs := s.i 20 + 1) (e := ee) (dr := 1) jw (fun z => z.c0 (by rw [hr0]; rcases h57 with y | y <;> rw [y] <;> decide) (NK.eq rfl rfl (by rw [e22.1]) (by rw [e22.1]))) h44 mA (vws.pl hC) (fun _ y hy gy e => by have := gis y hy gy; have e' : y.2.2.2 = ceG c1 := e; omega) nty (by rw [hr0]; rcases h57 with y | y <;> rw [y] <;> decide) (fun _ => ⟨k1, fun _ => k2⟩) e22 (fun _ j hj => x1 j hj) (fun _ j hj => x2 j hj) (fun j z => by
    have z1 := (si j).mp z
    have z2 : j = (s.a 67 (ceT c1)).toNatClampNeg := by omega
    exact ⟨by rw [z2]; exact x3, by have := pl7.1; omega⟩) (fun j n1 n2 n3 => x4 j (n1 go) (n2 lo) (fun z2 => n3 ((si j).mpr (by rw [z2]; exact c7)))) (D38.rf _) (D52.rf _) ⟨Or.inl rfl, rfl, rfl, rfl⟩ (fun _ _ _ => rfl) (clo_nm (by rw [hr0]; rcases h57 with y | y <;> rw [y] <;> decide) nty (by rw [hr0]; rcases h57 with y | y <;> rw [y] <;> decide) e22.1 (e22.2 40 (by decide))) (fun G => by
      show (1 : Int) ≤ dbr (G (vw S s c1).2.2.1) (S.o c1.2.1 0)
      rcases h57 with y | y <;> rw [y] <;> exact Int.le_refl _) he1
  rw [rt] at j0
  have j1 := j0.lop (by unfold pcR; rw [e22.1]) e36 h44 hz (by rw [e22.1]; exact ⟨p20.1, by omega⟩) e41 (by rcases he1 with z | ⟨z, -⟩ <;> omega)
  have qz : ∀ k : Nat, q.i k = z.2.i k := fun k => by
    by_cases hk : k = 20
    · rw [hk, z20]
    · rw [qi k hk, zi k hk, e22.1]
  have pz : pcR z.2 = pcR q := by unfold pcR; rw [z20]
  rw [pz] at j1
  refine ⟨u, ee, e22, he2, j1.se (by
    unfold qe
    rw [← za, qz 20, qz 24, qz 29, qz 33, qz 42, qz 52]) ⟨qz 38, fun j _ => by rw [za]⟩, ⟨q20, qi, qa⟩, ?_⟩
  unfold f_X0_aim f_X0_add at *
  cases e36
  cases e41
  rfl
set_option maxHeartbeats 2000000 in
theorem en_while {N : Nat} {E1 : CS → Option (Unit × CS)} {E2 : CS → Option (Int32 × CS)} {d : Int32} {B : CS} {b : RS} {t0 n : Nat} {L : List CEL} {x : Int} {S : CS} {s U : RS} {c1 c : CEL} {R : Unit × CS} {Aj : JBA} (mA : JBM U Aj) (hC : COR d B b t0 (c1 :: c :: L) x S s) (tp : TOP S s c1) (hM : MEN c1 S s) (h205 : S.o c1.2.1 0 = 205) (bz : BAZ B b (c1 :: c :: L)) (hT : t0 ≤ ceT c1) (e : f_X7_endBody N E1 E2 S c1.2.1 = some R) (g : f_X12_parse_10 N n s = some U) : ∃ (m : Nat) (u : RS), f_X12_parse_10 N m u = some U ∧ POPD d B b t0 c L R.2 u ∧ JTR Aj U B b (c1 :: c :: L) S s (vws R.2 u (c :: L)) R.2 u := by
  obtain ⟨one, o5, ts, h75, hm⟩ := hM
  obtain ⟨m1, e1, k1, m2, e2, k2, cst⟩ := STK.mem _ _ _ _ hC.2.1 c1 List.mem_cons_self
  obtain ⟨f1, f2, f3, f4, f5⟩ := cst.2.2.1.2.2.2.2.2.2.1 h205
  have hv := hC.1
  have go : isGo (S.o c1.2.1 0) := Or.inr (Or.inr (Or.inl h205))
  obtain ⟨m2, V, hV, g2⟩ := rl_10 g ts hv.1.2.1 f1
  unfold f_X12_whiles at hV
  obtain ⟨hib, hV⟩ := hf_ite hV
  have t9 : ceT c1 < 1000 := by
    have h2 : (s.i 63).toInt = (ceT c1 : Int) := ts
    have := hib.2
    omega
  have g68 : (s.a 68 (ceT c1)).toNatClampNeg = ceG c1 := by
    show (s.a 68 (ceT c1)).toInt.toNat = ceG c1
    omega
  rw [tp_nat ts, f2, if_neg (by decide), if_neg (by decide), g68] at hV
  obtain ⟨-, hV⟩ := hf_ite hV
  obtain ⟨s1, hp1, hV⟩ := hf_bind hV
  obtain ⟨y, hy, hV⟩ := hf_bind hV
  obtain ⟨-, hV⟩ := hf_ite hV
  obtain ⟨q, hp2, hV⟩ := hf_bind hV
  have hp2z := hp2
  -- the row goes
  obtain ⟨hD, inj, ord, lk, lw⟩ := hC.drop (by rw [h205]; unfold isTy; decide) (by rw [h205]; decide) (by rw [h205]; rfl) (by rw [h205]; rfl)
  have ph := hC.2.2.2.2.2.2.1.2.1
  have phe : PDM S (c1 :: c :: L) = 1 + PDM S (c :: L) := by
    show dbt (S.o c1.2.1 0) + PDM S (c :: L) = _
    rw [h205]
    rfl
  have pd0 := (PDM.ge S (c :: L)).1
  obtain ⟨-, b30, b0, col, hc⟩ := id hC.2.2.2.2.2.2.2.2.2.2
  obtain ⟨hx48, hx49⟩ := hc.2.2.1 c1 List.mem_cons_self go
  have e22a := pt_in (F := fun k => col k = some (ceG c1, false)) (κ := (ceG c1, false)) hc (fun k hk => hk) hx49 hp1
  obtain ⟨hE1, hc1⟩ := hD.e22 (hc.drop inj) (e22a.mono (fun k hk => (hc.fre b0).1 k false hk))
  have t1 : tpI s1 = (ceT c1 : Int) := by
    show (s1.i 63).toInt = _
    rw [e22a.1]
    exact ts
  have ph1 : phI s1 = phI s := by
    unfold phI
    rw [e22a.1]
  obtain ⟨n1, n2, n3, n4, n5, n6, n7, n8, n9, n19, -⟩ := y_emit hE1.1 t1 (by omega) hy
  have hin0 := hC.inl tp (T := ceT c1 + wid (S.o c1.2.1 0)) rfl
  have hin1 : INL S s1 (ceT c1) (c :: L) := by
    have z := STK.inl L c _ _ _ hE1.2.1 (by have := tp.1; have := lk.1; omega) (by rw [e22a.1]; have := tp.2.1; have := lk.2.2.1; omega) (by rw [e22a.1]; have := tp.2.2; have := lk.2.2.2.1; omega)
    rw [← lk.2.1] at z
    exact z
  have hE2 := hE1.mv3 hin1 hT n1 (n3 _) n4 ⟨by rw [n8]; exact Int.le_refl _, by omega, by rw [n9]; exact Int.le_refl _, by rw [n19]⟩
  have hc2 := hc1.mv b0 hin1 (CKZ.rf S) (n3 _) n4.1.r n4.2
  have fr := n3 (ceT c1 + 1) (ceT c1) (by omega)
  have y67 : y.2.a 67 (ceT c1) = s.a 67 (ceT c1) := by
    rw [fr.2.2.2.1, e22a.2.2.2.1 67 (by decide)]
  have pl : PLF S s c1 (s.a 67 (ceT c1)).toInt := Or.inr (Or.inr ⟨Or.inl h205, rfl⟩)
  have e66 : ∀ z ∈ c :: L, y.2.a 66 (ceT z) = s.a 66 (ceT z) := fun z hz => by
    have a := (hin1 z hz).2.2.1
    have b := wid1 (S.o z.2.1 0)
    rw [(n3 (ceT c1) (ceT z) (by omega)).2.2.1, e22a.2.2.2.1 66 (by decide)]
  rw [y67] at hp2
  have f67 : FRE S y.2 (c :: L) (cdr (ceG c1) col) (b.i 20).toInt (s.a 67 (ceT c1)).toNatClampNeg := ((hc.fre b0).2 _ pl).mv e66
  obtain ⟨s3, hs3⟩ : ∃ s3, s3 = RS.setA y.2 22 (s.a 67 (ceT c1)).toNatClampNeg (y.2.i 20) := ⟨_, rfl⟩
  have e22b : E22 (FRE S y.2 (c :: L) (cdr (ceG c1) col) (b.i 20).toInt) y.2 s3 := by
    rw [hs3]
    exact E22.set f67
  have a22 : ∀ k : Nat, k ≠ (s.a 67 (ceT c1)).toNatClampNeg → s3.a 22 k = y.2.a 22 k := fun k hk => by
    rw [hs3]
    exact setA_ne hk
  rw [← hs3] at hp2
  clear hs3
  obtain ⟨hE3, hc3⟩ := hE2.e22 hc2 e22b
  have e663 : ∀ z ∈ c :: L, s3.a 66 (ceT z) = s.a 66 (ceT z) := fun z hz => by
    rw [e22b.2.2.2.1 66 (by decide)]
    exact e66 z hz
  have n67 := (hc.2.2.2.2.2.2 c1 List.mem_cons_self _ pl).2.2.1
  have gi : (ceG c1 : Int) < (s1.i 43).toInt := by
    rw [e22a.1]
    have := tp.2.1
    have := nGo1 go
    omega
  have y48 : y.2.a 48 (ceG c1) = s.a 48 (ceG c1) ∧ y.2.a 50 (ceG c1) = s.a 50 (ceG c1) ∧ y.2.a 44 (ceG c1) = s.a 44 (ceG c1) := by
    have z := n4.1.r.2.1 (ceG c1) gi
    rw [z.2.2.2.2.2.2.1, z.2.2.2.2.1, z.1, e22a.2.2.2.1 48 (by decide), e22a.2.2.2.1 50 (by decide), e22a.2.2.2.1 44 (by decide)]
    exact ⟨rfl, rfl, rfl⟩
  rw [y48.1] at hp2
  have e22c : E22 (FRE S s3 (c :: L) (cdr (ceG c1) col) (b.i 20).toInt) s3 q := by
    refine pt_e22 (κ := (ceG c1, true)) (col := col) (fun k hk => ((hc.fre b0).1 k true hk).mv e663) N (s.i 20).toInt.toNat s3 q (y.2.i 20) (s.a 48 (ceG c1)) (fun k hk _ => ?_) ?_ hp2
    · have k20 := (hc.1 k _ hk).2
      have nk : k ≠ (s.a 67 (ceT c1)).toNatClampNeg := fun z => by
        have z2 : col k = none := by
          rw [z]
          exact n67
        rw [z2] at hk
        cases hk
      rw [a22 k nk, n4.2.2 k (by rw [e22a.1]; exact k20), e22a.2.2.2.2 k (fun z => by
        have z' : col k = some (ceG c1, false) := z
        rw [hk] at z'
        have z2 : true = false := congrArg Prod.snd (Option.some.inj z')
        exact absurd z2 (by decide))]
      exact hc.2.1 k _ hk
    · rcases hx48 with z | ⟨j, j1, j2⟩
      · exact Or.inl z
      · have := (hc.1 j _ j2).2
        exact Or.inr ⟨j, j1, by omega, j2⟩
  obtain ⟨hE4, -⟩ := hE3.e22 hc3 e22c
  have qi : q.i = y.2.i := e22c.1.trans e22b.1
  have qa : ∀ k : Nat, k ≠ 22 → q.a k = y.2.a k := fun k hk => (e22c.2.2.2.1 k hk).trans (e22b.2.2.2.1 k hk)
  have q71 : q.a 71 (ceT c1) = S.o c1.2.1 7 := by
    rw [qa 71 (by decide), fr.2.2.2.2.2.2.2.1, e22a.2.2.2.1 71 (by decide)]
    exact f4
  have q50 : q.a 50 (ceG c1) = s.a 50 (ceG c1) := by
    rw [qa 50 (by decide)]
    exact y48.2.1
  have q43 : q.i 43 = s.i 43 := by
    rw [qi, n4.1.1.2.2.2.2.1, e22a.1]
  have q56 : q.i 56 = s.i 56 := by
    rw [qi, n4.1.1.2.2.2.2.2.2.1, e22a.1]
  -- the class
  unfold f_X7_endBody at e
  obtain ⟨-, e⟩ := hf_ite e
  rw [if_neg (by rw [h205]; decide), if_neg (by rw [h205]; decide), if_neg (by rw [h205]; decide), if_neg (by rw [h205]; decide)] at e
  obtain ⟨p36, e36, e⟩ := hf_bind e
  obtain ⟨-, e⟩ := hf_ite e
  obtain ⟨p41, e41, e⟩ := hf_bind e
  obtain ⟨-, e⟩ := hf_ite e
  obtain ⟨a1, a2, -, -⟩ := y_add hv e36
  obtain ⟨b1, b2, -, -⟩ := y_aim a1 e41
  obtain ⟨a1q, -, -, -⟩ := y_add hE4.1 e36
  obtain ⟨b1q, -, -, -⟩ := y_aim a1q e41
  have ck := a2.tr b2
  have hCp := hC.cx hin0 (by omega) b1 ck
  have eo1 := (hin0.o ck.z c1 List.mem_cons_self).1
  have fin : ∃ v : Int32, (v = 0 ∨ v = 1) ∧ (S.o c1.2.1 7 = 0 → v = 1) ∧ (s.a 50 (ceG c1) = 1 → v = 1) ∧ f_X12_over N (RS.setI q 43 (q.i 43 - 1)) v = some V ∧ f_X7_endBody_193 N E1 E2 (CS.setI p41.2 36 v) c1.2.1 = some R := by
    rw [q71, q50] at hV
    rw [eo1] at e
    by_cases z : S.o c1.2.1 7 = 0
    · rw [if_pos z] at hV e
      rw [ob_id] at hV
      exact ⟨1, Or.inr rfl, fun _ => rfl, fun _ => rfl, hV, e⟩
    · rw [if_neg z] at hV e
      obtain ⟨p47, e47, e⟩ := hf_bind e
      obtain ⟨y1, y2⟩ := y_gone hCp (by rw [eo1]; exact go) (Or.inl ⟨rfl, rfl⟩) e47
      have y3 : p47.1 = s.a 50 (ceG c1) := y2.trans (if_pos rfl)
      rw [y1, y3] at e
      by_cases k : s.a 50 (ceG c1) = 0
      · rw [if_pos k] at hV e
        rw [ob_id] at hV
        exact ⟨0, Or.inl rfl, fun y => absurd y z, fun y => by rw [k] at y; exact absurd y (by decide), hV, e⟩
      · rw [if_neg k] at hV e
        rw [ob_id] at hV
        exact ⟨1, Or.inr rfl, fun _ => rfl, fun _ => rfl, hV, e⟩
  obtain ⟨v, hv1, va, vf, ho, e193⟩ := fin
  have g43 : (q.i 43 - 1).toInt = (q.i 43).toInt - 1 := by
    have e1 : (1 : Int32).toInt = 1 := by decide
    have hi := Int32.toInt_lt (q.i 43)
    have := tp.2.1
    rw [← q43] at this
    rw [toInt_sub] <;> rw [e1] <;> omega
  have tpq : TOP S q c1 := ⟨tp.1, by rw [q43]; exact tp.2.1, by rw [q56]; exact tp.2.2⟩
  have lwq : LOW S q c := (((lw.e22 e22a).mv rfl (n3 (ceT c1)) (by rw [lk.2.1]; exact Nat.le_refl _)).e22 e22b).e22 e22c
  refine ⟨m2, V, g2, en_pop hE4 eo1 tpq (by show (q.i 63).toInt = _; rw [qi]; exact n2) hm one (by rw [h205]; decide) (by rw [h205]; decide) (fun _ => by rw [qa 44 (by decide), y48.2.2, f5]; decide) bz hT t9 lk lwq b1q ck hv1 ho ⟨fun k hk => if_neg hk, rfl, rfl, rfl⟩ (by rw [nGo1 go]; exact g43) e193, fun _ jw => ?_⟩
  -- the code
  have s66 : s1.a 66 (ceT c1) = s.a 66 (ceT c1) := by rw [e22a.2.2.2.1 66 (by decide)]
  rw [s66] at hy
  have eo36 := (hin0.o a2.z c1 List.mem_cons_self).1
  rw [eo36] at e41
  obtain ⟨u, ee, e22, he2, j1, ⟨q20, qi', qa'⟩, p43⟩ := lp_code (hp := 66) mA hC (Or.inl h205) jw (by omega) hp1 hy hp2z e36 e41
  have hr0 : (vw S s c1).v = 205 := h205
  have gis := hC.gis
  have t43 := tp.2.1
  obtain ⟨jr, oR, aV⟩ := j1.pop1 (n := c.1) (q' := RS.setI q 43 (q.i 43 - 1)) (by omega) (by rw [p43]; exact he2) (by rw [ck.1.2.2.2.2.1]; have := tp.1; have := lk.1; omega) e193 ⟨fun k _ hk => if_neg hk, rfl⟩ (Int.le_refl _) ho (fun y hy gy => by
    have := gis y hy gy
    show ((y.2.2.2 : Nat) : Int) < (q.i 43 - 1).toInt
    rw [g43, q43]
    have := nGo1 go
    omega) (fun k k1 k2 => by rw [qa' k (by omega), e22.2 k (by omega)]) (by rw [qi' 59 (by decide), e22.1]) (by rw [qi' 11 (by decide), e22.1]; exact Int.le_refl _) (by rw [qi' 19 (by decide), e22.1]; exact Int.le_refl _) (fun FC SF nm X ω j Z hω r12 hcc k cur => by
    obtain ⟨⟨ct, pq, ⟨s1', s2'⟩, ⟨u1', u2'⟩, pe1, pe2⟩, ⟨st, hd, rp, -⟩, G', -, hY, hX⟩ := k
    have p20 := hv.p20
    have p12 := pq.1
    have pS : (s.i 20 + 1).toInt = ((pcR s + 1 : Nat) : Int) := by
      have z1 : (s.i 20).toInt = ((pcR s : Nat) : Int) := (Int.toNat_of_nonneg p20.1).symm
      rw [ad1 p20.1 (by omega)]
      omega
    have r66 : (vw S s c1).2.1 66 = s.a 66 (ceT c1) := (vw_at (k := 66) ⟨by decide, by decide⟩)
    have r67 : (vw S s c1).2.1 67 = s.a 67 (ceT c1) := (vw_at (k := 67) ⟨by decide, by decide⟩)
    obtain ⟨p0, c0, l0, -⟩ := hd (S.o c1.2.1 10) (Or.inl ⟨Or.inl hr0, rfl⟩)
    have q66 := (rp go).1 (Or.inl hr0)
    rw [r66] at q66
    have cq : (s.a 66 (ceT c1)).toInt = (((s.a 66 (ceT c1)).toInt.toNat : Nat) : Int) := (Int.toNat_of_nonneg q66).symm
    have nty : ¬ isTy (vw S s c1).v := fun z => by
      rw [hr0] at z
      rcases z with z | z | z | z <;> exact absurd z (by decide)
    have en : ∀ (h l : Nat), jen G' ω (vw S s c1) h l = [] := fun h l => jen.no (by rw [hr0]; decide) nty (by rw [hr0]; decide)
    have bk : jbk G' ω (vw S s c1) j = j := if_neg (by rw [hr0]; decide)
    have cn : jcn G' ω (vw S s c1) j = j.up 1264 := by
      unfold jcn
      rw [if_neg (by rw [hr0]; decide), bk]
    rw [pe1, pe2] at cur
    refine lop_fin (jh := j) c0 l0 cq hY hX (fun Y h => by rw [← r66]; exact h.1 hr0) (fun Y sy hed => ⟨⟨fun z => absurd (hr0.symm.trans z) (by decide), fun z => absurd (hr0.symm.trans z) (by decide), fun _ => ⟨fun f0 => ?_, ⟨_, _, c0, by rw [r66]; exact cq, l0, hed⟩⟩, fun z => absurd (hr0.symm.trans z) (by decide), fun z => absurd (hr0.symm.trans z) (by decide), fun z => absurd (hr0.symm.trans z) (by decide), fun z => absurd (hr0.symm.trans z) (by decide), fun z => absurd z nty, fun _ => noc.gl⟩, fun _ => ⟨fun fl => ?_, fun _ _ => ?_⟩, fun h1 => ?_⟩)
    · have pl7 := (hc.2.2.2.2.2.2 c1 List.mem_cons_self (s.a 67 (ceT c1)).toInt pl).1
      have e9 := st (s.a 67 (ceT c1)).toNatClampNeg (Or.inr (Or.inr (Or.inl ⟨Or.inl hr0, by
        rw [r67]
        exact clampI (by omega)⟩)))
      refine ⟨_, _, ct, ?_, sy _ _ _ _ _ _ (Nat.zero_le _) (cur (va f0)).1⟩
      rw [r67, e9]
      exact pS
    · rw [bk]
      exact ⟨_, _, ct, pS, sy _ _ _ _ _ _ (Nat.zero_le _) (cur (vf fl)).1⟩
    · rw [cn]
      refine ⟨_, _, c0, cq, ?_⟩
      have z := hed.1
      rw [show ω + j.l + 1264 - p0 = ω + (j.up 1264).l - p0 by (show ω + j.l + 1264 - p0 = ω + (j.l + 1264) - p0; omega)] at z
      exact z
    · have jl : jlv (vw S s c1).v = 2528 := by rw [hr0]; rfl
      rw [en, jl]
      have z : ∀ g : Nat, GU FC SF U nm Y (pcC S) (pcR s) j.h (ω + (j.l + 2528) - pcC S) g j.c := fun g => gi_UJmp (pq.hc hcc) pq.2.1 ⟨s1', u1', p0, _, _, ⟨by rw [s2']; exact c0, by rw [u2']; exact cq⟩, by omega, hed.1⟩
      exact ⟨z 0, z 1⟩)
  rw [clo_veq hD tp lk (fun j _ => by rw [aV, qa' 40 (by omega)]) (fun y hy => by rw [oR]; exact (hin0.o ck.z y (List.mem_cons_of_mem _ hy)).1) (fun k t h1 h2 _ => by rw [aV, qa' k (by omega)])]
  exact jr
