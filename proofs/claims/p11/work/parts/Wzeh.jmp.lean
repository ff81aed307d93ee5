/-! both readers: a jump's code -/
theorem lv5 {t g : Int32} (ht : NT5 t) (hg : 0 ≤ g.toInt ∧ g.toInt < 32) : (t * 32 + g) / 32 = t ∧ ((t * 32 + g) - (t * 32 + g) / 32 * 32).toInt = g.toInt := by
  obtain ⟨t0, t1⟩ := ht
  have e32 : (32 : Int32).toInt = 32 := by decide
  have m1 : (t * 32).toInt = t.toInt * 32 := by
    rw [Int32.toInt_mul, e32, Int.bmod_eq_of_le (by omega) (by omega)]
  have a1 : (t * 32 + g).toInt = t.toInt * 32 + g.toInt := by rw [toInt_add] <;> rw [m1] <;> omega
  have d1 : (t * 32 + g) / 32 = t := by
    refine Int32.toInt_inj.mp ?_
    rw [Int32.toInt_div, a1, e32, Int.tdiv_eq_ediv_of_nonneg (by omega), Int.bmod_eq_of_le (by omega) (by omega)]
    omega
  refine ⟨d1, ?_⟩
  rw [d1, toInt_sub] <;> rw [a1, m1] <;> omega
/-- the tries among the rows -/
def wly : List RVW → List Nat
  | [] => []
  | r :: V => if r.v = 213 ∨ r.v = 215 ∨ r.v = 305 then (r.2.1 66).toNatClampNeg :: wly V else wly V
theorem wly.mem : ∀ (V : List RVW) (y : Nat), y ∈ wly V ↔ ∃ r ∈ V, isWl r.v ∧ y = (r.2.1 66).toNatClampNeg
  | [], y => ⟨fun h => absurd h List.not_mem_nil, fun ⟨r, hr, _⟩ => absurd hr List.not_mem_nil⟩
  | r :: V, y => by
    have ih := wly.mem V y
    unfold wly
    by_cases q : r.v = 213 ∨ r.v = 215 ∨ r.v = 305
    · rw [if_pos q, List.mem_cons, ih]
      constructor
      · rintro (h | ⟨w, hw, h⟩)
        · exact ⟨r, List.mem_cons_self, q, h⟩
        · exact ⟨w, List.mem_cons_of_mem _ hw, h⟩
      · rintro ⟨w, hw, h1, h2⟩
        rcases List.mem_cons.mp hw with e | hw
        · rw [e] at h2
          exact Or.inl h2
        · exact Or.inr ⟨w, hw, h1, h2⟩
    · rw [if_neg q, ih]
      constructor
      · rintro ⟨w, hw, h⟩
        exact ⟨w, List.mem_cons_of_mem _ hw, h⟩
      · rintro ⟨w, hw, h1, h2⟩
        rcases List.mem_cons.mp hw with e | hw
        · rw [e] at h1
          exact absurd h1 q
        · exact ⟨w, hw, h1, h2⟩
theorem sfr.app : ∀ (V W : List RVW), sfr (V ++ W) = sfr V + sfr W
  | [], W => (Nat.zero_add _).symm
  | r :: V, W => by
    show sfr (V ++ W) + dfr r.v = (sfr V + dfr r.v) + sfr W
    rw [sfr.app V W]
    omega
theorem DPM.mid {G : GHT} {f l : Nat} {s : RS} {r : RVW} {V2 : List RVW} : ∀ (V1 : List RVW), DPM G f l s (V1 ++ r :: V2) → isGo r.v → ((r.1 2).toInt = ((f + sfr V2 : Nat) : Int) ∧ (s.a 47 r.2.2.2).toInt = ((l + sln (r :: V2) : Nat) : Int)) ∧ NT5 (r.1 9) ∧ (isLo r.v → NT5 (r.1 10)) ∧ RHP r.v r.2.1
  | [], h, g => h.1.1 g
  | _ :: V1, h, g => DPM.mid V1 h.2 g
section
variable {FC : Nat → Prop} {SF : CS} {U : RS} {nm : Nat → Nat → Prop} {X : Als} {G : GHT} {col col' : Nat → Option (Nat × Bool)} {YJ YJ' : Nat → List Nat} {ω h0 : Nat} {c0 : List Ent}
theorem JRS.mid {r : RVW} {V2 : List RVW} : ∀ (V1 : List RVW), JRS FC SF U nm X G col YJ ω h0 c0 (V1 ++ r :: V2) → JRH FC SF U nm X G col YJ ω r (JCX G ω h0 c0 V2)
  | [], h => h.1
  | _ :: V1, h => JRS.mid V1 h.2
theorem JRS.cl (hc : ∀ i : Nat, ¬ col i = none → col' i = col i ∧ YJ' i = YJ i) : ∀ (V : List RVW), JRS FC SF U nm X G col' YJ' ω h0 c0 V → JRS FC SF U nm X G col YJ ω h0 c0 V
  | [], _ => True.intro
  | r :: V, h => by
    obtain ⟨⟨h1, h2, h3, h4, h5, h6, h7, h8, h9⟩, h0'⟩ := h
    refine ⟨⟨h1, h2, h3, h4, h5, h6, h7, h8, fun go i fy => ?_⟩, JRS.cl hc V h0'⟩
    refine ⟨fun e => ?_, fun e => ?_⟩
    · obtain ⟨c1, c2⟩ := hc i (by rw [e]; exact fun z => by cases z)
      rw [← c2] at fy
      exact (h9 go i fy).1 (c1.trans e)
    · obtain ⟨c1, c2⟩ := hc i (by rw [e]; exact fun z => by cases z)
      rw [← c2] at fy
      exact (h9 go i fy).2 (c1.trans e)
end
/-- where a jump to a row leads: what is open there -/
theorem jbk.cx {G : GHT} {ω h0 : Nat} {c0 : List Ent} {r : RVW} {V2 : List RVW} (go : isGo r.v) : (jbk G ω r (JCX G ω h0 c0 V2)).h = h0 ∧ (jbk G ω r (JCX G ω h0 c0 V2)).c = (JCX G ω h0 c0 (r :: V2)).c ∧ (jbk G ω r (JCX G ω h0 c0 V2)).l ≤ (JCX G ω h0 c0 (r :: V2)).l := by
  have hh := (JCX.cnt G ω h0 c0 V2).1
  have ll : (JCX G ω h0 c0 V2).l ≤ (JCX G ω h0 c0 (r :: V2)).l := Nat.le_add_right _ _
  unfold jbk
  by_cases q : r.v = 304
  · rw [if_pos q]
    exact ⟨hh, rfl, ll⟩
  · rw [if_neg q]
    have en : jen G ω r (JCX G ω h0 c0 V2).h (JCX G ω h0 c0 V2).l = [] := jen.no (fun z => by rw [z] at go; exact absurd go (by unfold isGo; decide)) (fun z => by
      rcases z with z | z | z | z <;> rw [z] at go <;> exact absurd go (by unfold isGo; decide)) q
    refine ⟨hh, ?_, ll⟩
    show (JCX G ω h0 c0 V2).c = jen G ω r (JCX G ω h0 c0 V2).h (JCX G ω h0 c0 V2).l ++ (JCX G ω h0 c0 V2).c
    rw [en]
    rfl
theorem jcn.cx {G : GHT} {ω h0 : Nat} {c0 : List Ent} {r : RVW} {V2 : List RVW} (lo : isLo r.v) : (jcn G ω r (JCX G ω h0 c0 V2)).h = h0 ∧ (jcn G ω r (JCX G ω h0 c0 V2)).c = (JCX G ω h0 c0 (r :: V2)).c ∧ (jcn G ω r (JCX G ω h0 c0 V2)).l ≤ (JCX G ω h0 c0 (r :: V2)).l := by
  have go : isGo r.v := Or.inr (Or.inr lo)
  obtain ⟨b1, b2, -⟩ := jbk.cx (G := G) (ω := ω) (h0 := h0) (c0 := c0) (V2 := V2) go
  have hl : (JCX G ω h0 c0 (r :: V2)).l = (JCX G ω h0 c0 V2).l + jlv r.v := rfl
  unfold jcn
  by_cases q : r.v = 206 ∨ r.v = 207
  · rw [if_pos q]
    have q4 : ¬ r.v = 304 := fun z => by rw [z] at q; exact absurd q (by decide)
    unfold jbk at b1 b2
    rw [if_neg q4] at b1 b2
    refine ⟨b1, b2, ?_⟩
    rw [hl]
    show (JCX G ω h0 c0 V2).l + 2528 ≤ _
    have : 2528 ≤ jlv r.v := by
      rcases q with q | q <;> rw [q] <;> decide
    omega
  · rw [if_neg q]
    refine ⟨b1, b2, ?_⟩
    rw [hl]
    have e1 : (jbk G ω r (JCX G ω h0 c0 V2)).l = (JCX G ω h0 c0 V2).l := by
      unfold jbk
      by_cases q4 : r.v = 304
      · rw [if_pos q4]
        rfl
      · rw [if_neg q4]
    show (jbk G ω r (JCX G ω h0 c0 V2)).l + 1264 ≤ _
    rw [e1]
    have : 1264 ≤ jlv r.v := by
      rcases lo with z | z | z | z <;> rw [z] <;> decide
    omega
def jup {α : Type} (kk : Nat) (v : α) (f : Nat → α) : Nat → α := fun j => if j = kk then v else f j
theorem jup.at {α : Type} {kk j : Nat} {v : α} {f : Nat → α} (h : j = kk) : jup kk v f j = v := if_pos h
theorem jup.ne {α : Type} {kk j : Nat} {v : α} {f : Nat → α} (h : ¬ j = kk) : jup kk v f j = f j := if_neg h
/-- heads of the chains -/
def jhd (s : RS) (g : Nat) (k : Bool) : Int32 := if k = true then s.a 48 g else s.a 49 g
/-- what a jump to the goal g changes beside the code -/
def JCH (g kk : Nat) (k : Bool) (s u : RS) : Prop := (u.i 43 = s.i 43) ∧ (∀ (g' : Nat) (k' : Bool), (g' : Int) < (s.i 43).toInt → ¬ (g' = g ∧ k' = k) → jhd u g' k' = jhd s g' k') ∧ (jhd u g k).toInt = (kk : Int) ∧ (∀ (g' : Nat) (k' : Bool), (g' : Int) < (s.i 43).toInt → jfl s g' k' = 1 → jfl u g' k' = 1) ∧ (∀ j : Nat, (j : Int) < (s.i 43).toInt → u.a 47 j = s.a 47 j) ∧ (s.i 59).toInt ≤ (u.i 59).toInt ∧ ∀ j : Nat, (j : Int) < (s.i 59).toInt → u.a 60 j = s.a 60 j ∧ u.a 61 j = s.a 61 j ∧ u.a 62 j = s.a 62 j
theorem JSI.jmp {Ψ : GPS} {V : List RVW} {col : Nat → Option (Nat × Bool)} {YJ : Nat → List Nat} {b s u : RS} {r : RVW} {k : Bool} {kk : Nat} {ys : List Nat} (h : JSI Ψ V col YJ b s) (hr : r ∈ V) (go : isGo r.v) (lo : k = false → isLo r.v) (gi : ∀ q ∈ V, isGo q.v → q.2.2.2 = r.2.2.2 → q = r) (jc : JCH r.2.2.2 kk k s u) (y20 : (s.i 20).toInt ≤ (u.i 20).toInt) (y29 : (s.i 29).toInt ≤ (u.i 29).toInt) (a22 : ∀ j : Nat, ¬ col j = none → u.a 22 j = s.a 22 j) (a31 : ∀ y : Nat, (y : Int) < (s.i 29).toInt → u.a 31 y = s.a 31 y) (nk9 : ∀ q ∈ V, ¬ rsite q kk) (l22 : u.a 22 kk = jhd s r.2.2.2 k) (k1 : (s.i 20).toInt ≤ (kk : Int)) (k2 : (kk : Int) < (u.i 20).toInt) (b20 : (b.i 20).toInt ≤ (kk : Int)) (nw : jfl u r.2.2.2 k = 1 ∨ JWT V ys u r r.2.2.2 k) : JSI Ψ V (jup kk (some (r.2.2.2, k)) col) (jup kk ys YJ) b u := by
  obtain ⟨h1, h2, hn⟩ := h
  obtain ⟨j43, jh, jn, jf, -, j59, jp⟩ := jc
  have nk : ∀ (j : Nat) (x : Nat × Bool), col j = some x → ¬ j = kk := fun j x e z => by
    have := (h2 j x.1 x.2 e).1.2
    omega
  have li : ∀ (l : List Nat) (v : Int32), (∀ j ∈ l, ∃ x : Nat × Bool, col j = some x) → lks s v l → lks u v l := fun l v hl z => lks.mv l v z (fun j hj => by
    obtain ⟨x, hx⟩ := hl j hj
    exact a22 j (by rw [hx]; exact fun z => by (cases z)))
  refine ⟨fun q hq gq => ?_, fun j g k' hc => ?_, fun q hq k9 p => ?_, hn.2⟩
  · obtain ⟨z0, l1, l2, z1, z2, z3⟩ := h1 q hq gq
    have m1 : lks u (s.a 48 q.2.2.2) l1 := li l1 _ (fun j hj => ⟨_, (z3 j).1.mpr hj⟩) z1
    have m2 : lks u (s.a 49 q.2.2.2) l2 := li l2 _ (fun j hj => ⟨_, (z3 j).2.mpr hj⟩) z2
    refine ⟨by rw [j43]; exact z0, ?_⟩
    have cj : ∀ (j : Nat) (k' : Bool), ¬ (q.2.2.2 = r.2.2.2 ∧ k' = k) → (jup kk (some (r.2.2.2, k)) col j = some (q.2.2.2, k') ↔ col j = some (q.2.2.2, k')) := fun j k' hn => by
      by_cases e : j = kk
      · rw [jup.at e]
        constructor
        · intro z
          have z' := Option.some.inj z
          exact absurd ⟨(congrArg Prod.fst z').symm, (congrArg Prod.snd z').symm⟩ hn
        · intro z
          exact absurd e (nk j _ z)
      · rw [jup.ne e]
    by_cases eg : q.2.2.2 = r.2.2.2
    · -- the row itself
      have cn : ∀ j : Nat, (jup kk (some (r.2.2.2, k)) col j = some (q.2.2.2, k) ↔ j = kk ∨ col j = some (q.2.2.2, k)) := fun j => by
        by_cases e : j = kk
        · rw [jup.at e, eg]
          exact ⟨fun _ => Or.inl e, fun _ => rfl⟩
        · rw [jup.ne e]
          exact ⟨Or.inr, fun z => z.resolve_left e⟩
      have hd : (jhd u q.2.2.2 k).toInt = (kk : Int) := by rw [eg]; exact jn
      have l22' : u.a 22 kk = jhd s q.2.2.2 k := by rw [eg]; exact l22
      cases k with
      | true =>
        have o9 : jhd u q.2.2.2 false = jhd s q.2.2.2 false := jh _ _ z0 (fun z => by cases z.2)
        have o9' : u.a 49 q.2.2.2 = s.a 49 q.2.2.2 := o9
        refine ⟨kk :: l1, l2, ⟨hd, ?_⟩, by rw [o9']; exact m2, fun j => ⟨?_, ?_⟩⟩
        · rw [l22']
          exact m1
        · rw [cn j, (z3 j).1, List.mem_cons]
        · rw [cj j false (fun z => by cases z.2)]
          exact (z3 j).2
      | false =>
        have o9 : jhd u q.2.2.2 true = jhd s q.2.2.2 true := jh _ _ z0 (fun z => by cases z.2)
        have o9' : u.a 48 q.2.2.2 = s.a 48 q.2.2.2 := o9
        refine ⟨l1, kk :: l2, by rw [o9']; exact m1, ⟨hd, ?_⟩, fun j => ⟨?_, ?_⟩⟩
        · rw [l22']
          exact m2
        · rw [cj j true (fun z => by cases z.2)]
          exact (z3 j).1
        · rw [cn j, (z3 j).2, List.mem_cons]
    · have o8 : jhd u q.2.2.2 true = jhd s q.2.2.2 true := jh _ _ z0 (fun z => eg z.1)
      have o9 : jhd u q.2.2.2 false = jhd s q.2.2.2 false := jh _ _ z0 (fun z => eg z.1)
      have o8' : u.a 48 q.2.2.2 = s.a 48 q.2.2.2 := o8
      have o9' : u.a 49 q.2.2.2 = s.a 49 q.2.2.2 := o9
      exact ⟨l1, l2, by rw [o8']; exact m1, by rw [o9']; exact m2, fun j => ⟨(cj j true (fun z => eg z.1)).trans (z3 j).1, (cj j false (fun z => eg z.1)).trans (z3 j).2⟩⟩
  · by_cases e : j = kk
    · have hc' : some (r.2.2.2, k) = some (g, k') := (jup.at e).symm.trans hc
      cases hc'
      refine ⟨by rw [e]; exact ⟨b20, k2⟩, r, hr, ⟨go, lo⟩, rfl, ?_⟩
      rw [jup.at (v := ys) (f := YJ) e]
      rcases nw with z | z
      · exact Or.inl z
      · exact Or.inr (Or.inl z)
    · have hc' : col j = some (g, k') := (jup.ne e).symm.trans hc
      obtain ⟨⟨z1, z2⟩, q, hq, gq, eg, z3⟩ := h2 j g k' hc'
      have z0 := (h1 q hq gq.1).1
      rw [eg] at z0
      refine ⟨⟨z1, by omega⟩, q, hq, gq, eg, ?_⟩
      rw [jup.ne (v := ys) (f := YJ) e]
      rcases z3 with z3 | ⟨i, i1, i2, i3, r', hr', i4, i5, i6, i7⟩ | ⟨w, hw, w1, w2, w3, w4⟩
      · exact Or.inl (jf g k' z0 z3)
      · obtain ⟨e1, e2, e3⟩ := jp i i1
        exact Or.inr (Or.inl ⟨i, by omega, by rw [e1]; exact i2, by rw [e2]; exact i3, r', hr', i4, i5, by rw [e3]; exact i6, i7⟩)
      · exact Or.inr (Or.inr ⟨w, hw, ⟨w1.1, by omega⟩, w2, by rw [a31 w w1.2]; exact w3, w4⟩)
  · by_cases e : k9 = kk
    · rw [e] at p
      exact absurd p (nk9 q hq)
    · rw [jup.ne e]
      exact hn.1 q hq k9 p
section
variable {A : JBA} {U : RS} {B : CS} {b : RS} {V0 : List RVW} {s0 : RS} {a e : Int} {P : CS} {q : RS}
set_option maxHeartbeats 1000000 in
/-- a jump -/
theorem JRG.jmp {N : Nat} {V1 V2 : List RVW} {r : RVW} {k : Bool} {x v0 : Int32} {p : Unit × CS} {yE : Int32 × RS} {R : CS} {u : RS} (h : JRG A U B b V0 s0 [] (JQG U 1264 0 1 (pcC P) (pcR q) JQZ) a e P q) (la : a ≤ -1) (le : e ≤ 0) (hV : V0 = V1 ++ r :: V2) (go : isGo r.v) (lo : k = false → isLo r.v) (gi : ∀ y ∈ V0, isGo y.v → y.2.2.2 = r.2.2.2 → y = r) (n305 : ∀ y ∈ V1, ¬ y.v = 305) (hx : x = if k = true then r.1 9 else r.1 10) (e1 : (r.1 2 = P.i 38 ∧ f_X0_add N P 30 x = some p) ∨ f_X0_add N P 60 (x * 32 + r.1 2) = some p) (h44 : (P.i 44).toInt ≤ 900) (hz : f_X12_emit N q 36 v0 = some yE) (hv0 : v0 = jhd s0 r.2.2.2 k) (h20 : 0 ≤ (q.i 20).toInt ∧ (q.i 20).toInt < 3000) (n50 : P.i 50 = q.i 38) (kp : pe R = pe p.2) (i21 : R.i 21 = p.2.i 21) (i50 : R.i 50 = p.2.i 50) (i44 : R.i 44 = p.2.i 44) (a48 : R.a 48 = p.2.a 48) (a49 : R.a 49 = p.2.a 49) (r36 : R.i 36 = 0) (qu : qe u = qe (RS.setA yE.2 23 (pcR q) (s0.a 47 r.2.2.2))) (nv : NMV q u) (jc : JCH r.2.2.2 (pcR q) k s0 u) (nw : jfl u r.2.2.2 k = 1 ∨ JWT V0 (wly V1) u r r.2.2.2 k) (l11 : (s0.i 11).toInt ≤ (u.i 11).toInt) (l19 : (s0.i 19).toInt ≤ (u.i 19).toInt) : JRW A U B b V0 R u := by
  intro crB
  obtain ⟨b1, ⟨b2, n8⟩, b3, b4, Ψ, G, col, YJ, sax, ⟨pin, pin0⟩, tgi, ⟨jsi, bD, hds⟩, main⟩ := h crB
  obtain ⟨⟨r0, r1⟩, r2, r3, r4, r5⟩ := crB.rms b1
  have hr : r ∈ V0 := by rw [hV]; exact List.mem_append_right _ List.mem_cons_self
  -- the class's instruction
  obtain ⟨o, w, ea, ow⟩ : ∃ o w : Int32, f_X0_add N P o w = some p ∧ ((o = 30 ∧ w = x ∧ r.1 2 = P.i 38) ∨ (o = 60 ∧ w = x * 32 + r.1 2)) := by
    rcases e1 with ⟨z1, z2⟩ | z2
    · exact ⟨_, _, z2, Or.inl ⟨rfl, rfl, z1⟩⟩
    · exact ⟨_, _, z2, Or.inr ⟨rfl, rfl⟩⟩
  obtain ⟨d1, d2, ⟨d3, d3'⟩, d4, d5, d6⟩ := cd_add ea r0 (by omega)
  obtain ⟨p20, p15, p16, p17, p23, p38, p22, p19⟩ := pe_eq kp
  have cR : CD1 1 0 P R := (d1.tr (CD1.pe (b := 0) kp i21 i50 a48 a49 (by rw [i44]; omega))).wk (by omega) (by omega)
  have tR : ∀ a b : Int, CT7 a b P R := fun a b => CT7.eq (p17.trans d4)
  have R20 : (R.i 20).toInt = (P.i 20).toInt + 1 := by rw [p20]; exact d2
  have pP : ((pcC P : Nat) : Int) = (P.i 20).toInt := Int.toNat_of_nonneg r0
  -- the reference's
  obtain ⟨m1, m2, m3, m4, m5, m6⟩ := cd_emit hz h20.1 h20.2
  have pq : ((pcR q : Nat) : Int) = (q.i 20).toInt := Int.toNat_of_nonneg h20.1
  have c23 : CD2 (q.i 20).toInt yE.2 (RS.setA yE.2 23 (pcR q) (s0.a 47 r.2.2.2)) := by
    obtain ⟨y3, hy3⟩ : ∃ y, y = RS.setA yE.2 23 (pcR q) (s0.a 47 r.2.2.2) := ⟨_, rfl⟩
    have yi : y3.i = yE.2.i := by rw [hy3]; rfl
    have ya : ∀ m : Nat, m ≠ 23 → y3.a m = yE.2.a m := by
      rw [hy3]
      exact fun m hm => setA_nk hm
    have y23 : ∀ j : Nat, ¬ j = pcR q → y3.a 23 j = yE.2.a 23 j := by
      rw [hy3]
      exact fun j hj => setA_ne hj
    rw [← hy3]
    clear hy3
    refine ⟨⟨by rw [yi]; exact Int.le_refl _, by rw [yi]; exact Int.le_refl _, by rw [yi]; exact Int.le_refl _, by rw [yi]; exact Int.le_refl _, SLC.eq (by rw [yi]) (by rw [yi]; exact Int.le_refl _), by rw [yi]⟩, fun j hj => ⟨by rw [ya 21 (by decide)], by rw [ya 22 (by decide)], y23 j (fun z => by omega)⟩, fun j _ => ⟨by rw [ya 25 (by decide)], by rw [ya 26 (by decide)], by rw [ya 27 (by decide)], by rw [ya 28 (by decide)]⟩, fun j _ => ⟨by rw [ya 30 (by decide)], by rw [ya 31 (by decide)], by rw [ya 32 (by decide)]⟩, fun j _ => ⟨by rw [ya 34 (by decide)], by rw [ya 35 (by decide)], by rw [ya 36 (by decide)], by rw [ya 37 (by decide)]⟩⟩
  have cu : CD2 (q.i 20).toInt q u := (m1.tr c23).tr (CD2.qe qu)
  obtain ⟨⟨u20, -, -, -, -, -⟩, u21, u22, u23, -⟩ := qe_eq qu
  have U20 : (u.i 20).toInt = (q.i 20).toInt + 1 := by rw [u20]; exact m3
  have k21 : u.a 21 (pcR q) = 36 := by rw [u21]; exact m4
  have k22 : u.a 22 (pcR q) = v0 := by
    rw [u22, setA_nk (by decide)]
    exact m5
  have k23 : u.a 23 (pcR q) = s0.a 47 r.2.2.2 := by
    rw [u23]
    exact setA_at
  have lb := b3.1.1
  have l4 := b4.1.1
  have l21 := b1.2.2.1
  have b5 : KDC s0 u := b4.tr cu.k
  obtain ⟨js1, js2, js3, js4⟩ := jsi
  have j22 : ∀ j : Nat, ¬ col j = none → u.a 22 j = s0.a 22 j := fun j hj => ((cu.2.1 j (by have := pin.1 j (Or.inl hj); omega)).2.1).trans (js3 j hj)
  have j31 : ∀ w : Nat, (w : Int) < (s0.i 29).toInt → u.a 31 w = s0.a 31 w := fun w w1 => ((cu.2.2.2.1 w (by have := b4.1.2.2.1; omega)).2.1).trans (js4 w w1 (fun ⟨q, hq, _⟩ => absurd hq List.not_mem_nil))
  have jsi : JSI Ψ V0 col YJ b s0 := js1
  have nc : ∀ i : Nat, ¬ col i = none → ¬ i = pcR q := fun i hi z => by
    have := pin.1 i (Or.inl hi)
    omega
  have pe1 : ∀ (V : List RVW) (i : Nat), ¬ i = pcR q → (PEN V (jup (pcR q) (some (r.2.2.2, k)) col) i ↔ PEN V col i) := fun V i hi => by
    unfold PEN
    rw [jup.ne hi]
  refine ⟨⟨0, Or.inl rfl, (b1.tr cR.k).wk (by omega) (by omega)⟩, ⟨b2.tr ((tR 0 (P.i 21).toInt).wk (Int.le_refl _) l21), n8.nk (NK.of cR cu n50 (Or.inl nv.1))⟩, b3.tr (cu.k.wk lb), GPS.an Ψ GPS.tt, G, jup (pcR q) (some (r.2.2.2, k)) col, jup (pcR q) (wly V1) YJ, sax.an (SAT.tt _ _ _ _ cu.1.2.2.2.2.1) (MNO.ofk b1 b3) (MNO.ofk cR.k cu.k) pin.2.2.1, ⟨fun i z => ?_, fun i z => by have := pin.2.1 i z; have := cu.1.2.1; omega, fun i z => by have := pin.2.2.1 i z; have := cu.1.2.2.1; omega, fun i z => by have := pin.2.2.2 i z; have := cu.1.2.2.2.1; omega⟩, tgi.mv crB.1.1.2.1 cR.2.2.1 (tR _ _), ⟨(jsi.mv (GKP.rf _) (KD2.rf _ _) (fun _ _ z => z.1)).jmp (ys := wly V1) hr go lo gi jc b5.1.1 b5.1.2.2.1 j22 j31 (fun q' hq' p => by have := pin.1 (pcR q) (Or.inr ⟨q', hq', p⟩); omega) (k22.trans hv0) (by omega) (by omega) (by omega) nw, ⟨0, Or.inl rfl, (bD.tr cR.k).wk (by omega) (by omega)⟩, hds.1.mv crB.1.1.2.1 cR.2.2.1 cR.1.1 (tR _ _) (fun r hr _ _ => hr), hds.2.kd cR.k cu.k⟩, ?_⟩
  · by_cases hi : i = pcR q
    · omega
    · have := pin.1 i ((pe1 V0 i hi).mp z)
      omega
  intro FC SF nm X h0 ω c0 psi ng0 hc0 hh0 hω
  obtain ⟨⟨ng, hc, hh, wn⟩, mn⟩ := main FC SF nm X h0 ω c0 psi.1 ng0 hc0 hh0 hω
  obtain ⟨k0, k1, k2⟩ := JCX.cnt G ω h0 c0 V0
  have dp := wn.2
  refine ⟨⟨(ng.1.mv n50 cR cu nv.1 nv.2).g (Int.le_trans ng.2 l19), hc, Int.le_trans hh l11, dp.mv V0 (fun y hy gy => jc.2.2.2.2.1 _ (jsi.1 y hy gy).1) l11⟩, fun fc fg hA tyc jr _ => ?_⟩
  have jr0 : JRS FC SF U nm X G col YJ ω h0 c0 V0 := JRS.cl (fun i hi => ⟨jup.ne (nc i hi), jup.ne (nc i hi)⟩) V0 jr
  have fc1 : FGD V0 B P SF := fc.pre cR.k (tR _ _) (fun _ hy => Or.inl hy)
  have fg0 := fg.fst cu.k (Int.le_refl _)
  have fg1 : FGP V0 col b q U := by
    obtain ⟨h1, h4, h5⟩ := fg0
    exact ⟨h1, fun j j1 j2 => ⟨(h4 j j1 j2).1, fun z => (h4 j j1 j2).2.1 (fun y => z ((pe1 V0 j (fun e => by omega)).mp y)), (h4 j j1 j2).2.2⟩, h5⟩
  refine mn fc1 fg1 hA tyc jr0 ?_
  -- the unit
  have f2 := fc.2.1 (pcC P) (by have := b1.1.1; omega) (by omega)
  have fr := fg.2.1 (pcR q) (by omega) (by omega)
  have fz := fg.1
  have c15 : SF.a 15 (pcC P) = o := by rw [f2.1, p15]; exact d3
  have c16 : SF.a 16 (pcC P) = w := by rw [f2.2, p16]; exact d3'
  have g21 : U.a 21 (pcR q) = 36 := by rw [fr.1]; exact k21
  have g23 : U.a 23 (pcR q) = s0.a 47 r.2.2.2 := by
    rw [fr.2.2 (fun z => by have := pin.1 _ z.pen; omega)]
    exact k23
  have pqx : PQX SF U (pcC P) (pcR q) := ⟨by have := fc.1.2; omega, by omega, fz.2.2⟩
  have ty := JRS.ty tyc V0 jr0
  rw [hV] at dp jr
  obtain ⟨⟨q1, q2⟩, q3, q4⟩ := dp.mid V1 go
  have n1 := ng.1.2.1
  obtain ⟨-, k1', k2'⟩ := JCX.cnt G ω h0 c0 (r :: V2)
  have hd0 : sfr (r :: V2) = sfr V2 := by
    show sfr V2 + dfr r.v = sfr V2
    rw [dfr.go go]
    rfl
  have sV : sfr V0 = sfr V1 + sfr V2 := by rw [hV, sfr.app, hd0]
  have fr22 := hc.2.2.1
  have jgl := (JRS.mid V1 jr).2.2.2.2.2.2.2.2 go (pcR q)
  have ec : jup (pcR q) (some (r.2.2.2, k)) col (pcR q) = some (r.2.2.2, k) := jup.at rfl
  have ey : jup (pcR q) (wly V1) YJ (pcR q) = wly V1 := jup.at rfl
  have tg : (∀ y ∈ V1, isWl y.v → 0 ≤ (U.a 31 (y.2.1 66).toNatClampNeg).toInt → FC (y.2.1 66).toNatClampNeg) → ∃ (p' q' l2 : Nat), l2 ≤ (JCX G ω h0 c0 (r :: V2)).l ∧ (cTg SF x).toInt = (p' : Int) ∧ (U.a 22 (pcR q)).toInt = (q' : Int) ∧ GU FC SF U nm X p' q' h0 (ω + l2 - p') 0 (JCX G ω h0 c0 (r :: V2)).c := fun hw => by
    have fy : FCY FC U (jup (pcR q) (wly V1) YJ (pcR q)) := by
      rw [ey]
      intro y hy h31
      obtain ⟨z, hz, z1, z2⟩ := (wly.mem V1 y).mp hy
      rw [z2] at h31 ⊢
      exact hw z hz z1 h31
    have jg := jgl fy
    cases k with
    | true =>
      obtain ⟨p', q', t1, t2, t3⟩ := jg.1 ec
      obtain ⟨b1', b2', b3'⟩ := jbk.cx (G := G) (ω := ω) (h0 := h0) (c0 := c0) (V2 := V2) go
      rw [b1', b2'] at t3
      exact ⟨p', q', _, b3', by rw [hx]; exact t1, t2, t3⟩
    | false =>
      obtain ⟨p', q', t1, t2, t3⟩ := jg.2 ec
      obtain ⟨b1', b2', b3'⟩ := jcn.cx (G := G) (ω := ω) (h0 := h0) (c0 := c0) (V2 := V2) (lo rfl)
      rw [b1', b2'] at t3
      exact ⟨p', q', _, b3', by rw [hx]; exact t1, t2, t3⟩
  have nx5 : NT5 x := by
    rw [hx]
    cases k with
    | true => exact q3
    | false => exact q4.1 (lo rfl)
  have hc' : HC0 nm h0 (JCX G ω h0 c0 (V1 ++ r :: V2)).c := by
    rw [← hV]
    have z := hc
    rw [k0] at z
    exact z
  rw [hV] at ty
  have gu := gu_jmp2 (g := 1) pqx hc' ty g21 (by rw [g23, q2, k2']) n305 (x := x) (by
    rcases ow with ⟨z1, z2, z3⟩ | ⟨z1, z2⟩
    · refine Or.inl ⟨c15.trans z1, c16.trans z2, ?_⟩
      rw [z3] at q1
      omega
    · have d32 : 0 ≤ (r.1 2).toInt ∧ (r.1 2).toInt < 32 := ⟨by omega, by omega⟩
      obtain ⟨y1, y2⟩ := lv5 nx5 d32
      refine Or.inr ⟨c15.trans z1, ?_, by rw [c16, z2]; exact y1⟩
      rw [c16, z2, y2, q1, k1', hd0]) tg
  rw [← hV] at gu
  rw [k0]
  exact gu
end
