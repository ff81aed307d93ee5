/-! the law: two worlds side by side -/
def CS.setHs (s : CS) (n : Nat) : CS := some (n, s.i, s.l, s.a, s.b, s.r, s.w, s.L, s.k, s.o, s.ol, s.ot, s.oa)
theorem cW_hs (Q : CQ) (s : CS) (n : Nat) : cW Q (CS.setHs s n) = cW Q s := rfl
theorem CIV.lt {h : Nat} {s : CS} (hc : CIV h s) : CS.hs s ≤ h := by
  have := hc.2.1
  unfold ROOM at this
  omega
theorem CIV.hs {h : Nat} {s : CS} (hc : CIV h s) {n : Nat} (hn : CS.hs s ≤ n) : CIV (h + (n - CS.hs s)) (CS.setHs s n) := by
  obtain ⟨⟨a0, a1⟩, c2, c3, c4, c5, c6, c7⟩ := hc
  refine ⟨⟨fun x hx => Nat.lt_of_lt_of_le (a0 x hx) hn, a1⟩, ?_, c3, c4, c5, c6, fun q => ?_⟩
  · unfold ROOM at *
    show n + nn (s.r 51) 400 + nn (s.r 61) 24 + 3 * nn (s.r 62) 24 = h + (n - CS.hs s)
    omega
  · obtain ⟨D, hD⟩ := c7 q
    exact ⟨D, CEQ.wt (s := s) ⟨rfl, rfl, rfl, rfl⟩ hD⟩
theorem va_A.mem {wc : va_W} {sz q : Nat} (h : va_A wc sz q) : (∃ e, (q, e) ∈ wc) ∨ sz ≤ q := by
  rcases h with ⟨k, e, h⟩ | h
  · exact Or.inl ⟨e, List.mem_of_getElem? h⟩
  · exact Or.inr h
theorem va_A.of {wc : va_W} {sz q : Nat} {e : va_E} (h : (q, e) ∈ wc) : va_A wc sz q := by
  obtain ⟨j, hj⟩ := List.mem_iff_getElem?.mp h
  exact Or.inl ⟨j, e, hj⟩
theorem va_P.mem {D : va_G} {cl : List vw_C} {ws : va_W} {H : Heap} (h : va_P D cl ws H) {q : Nat × va_E} (hq : q ∈ ws) : va_at D cl q H := by
  obtain ⟨j, hj⟩ := List.mem_iff_getElem?.mp hq
  exact h j q hj
theorem va_P.to {D : va_G} {cl : List vw_C} {ws : va_W} {H : Heap} (h : ∀ q ∈ ws, va_at D cl q H) : va_P D cl ws H := fun _ q hk => h q (List.mem_of_getElem? hk)
/-- one part of the world is another behind a call -/
theorem vj {A0 : Nat → Prop} {D : va_G} {cl : List vw_C} {wc wr w1 : va_W} {H H1 : Heap} (hP : va_P D cl (wc ++ wr) H) (hD : va_D A0 (wc ++ wr)) (hk : ∀ q : Nat, q < H.size → ¬ va_A wc H.size q → H1[q]? = H[q]?) (hF : ∀ q, va_A wc H.size q → A0 q) (h1 : va_P D cl w1 H1) (d1 : va_D (va_A wc H.size) w1) : va_P D cl (w1 ++ wr) H1 ∧ va_D A0 (w1 ++ wr) := by
  obtain ⟨n1, n2⟩ := hD.nd
  obtain ⟨m1, m2⟩ := d1.nd
  rw [List.map_append] at n1
  have dj : ∀ q ∈ wr, ∀ c ∈ wc, c.1 ≠ q.1 := fun q hq c hc e => by
    have := (List.nodup_append.mp n1).2.2 c.1 (List.mem_map_of_mem hc) q.1 (List.mem_map_of_mem hq)
    exact this e
  have na : ∀ q ∈ wr, q.1 < H.size ∧ ¬ va_A wc H.size q.1 := fun q hq => by
    have lt := (hP.mem (List.mem_append_right _ hq)).lt
    refine ⟨lt, fun h => ?_⟩
    rcases h.mem with ⟨e, h⟩ | h
    · exact dj q hq _ h rfl
    · omega
  refine ⟨va_P.to (fun q hq => ?_), va_D.of ?_ (fun q hq => ?_)⟩
  · rcases List.mem_append.mp hq with hq | hq
    · exact h1.mem hq
    · exact (hP.mem (List.mem_append_right _ hq)).kept (hk _ (na q hq).1 (na q hq).2)
  · rw [List.map_append]
    refine List.nodup_append.mpr ⟨m1, (List.nodup_append.mp n1).2.1, fun a ha b hb e => ?_⟩
    obtain ⟨x, hx, ex⟩ := List.mem_map.mp ha
    obtain ⟨y, hy, ey⟩ := List.mem_map.mp hb
    have := m2 x hx
    rw [ex, e, ← ey] at this
    exact (na y hy).2 this
  · rcases List.mem_append.mp hq with hq | hq
    · exact hF _ (m2 q hq)
    · exact n2 q (List.mem_append_right _ hq)
def wOut (qO : Nat) (kO : ClassId) (fo : Nat → Int64) : va_W := [(qO, .inl (kO, 1, .inr (.inl fo)))]
/-- the class, the reference and the law's array of one long -/
def LPW (dC : Nat → ClassId) (dI : Nat → Nat → Nat) (Q : CQ) (P : RQ) (qO : Nat) (kO : ClassId) (A : Nat → Prop) (H0 : Heap) (s : CS) (r : RS) (fo : Nat → Int64) (H : Heap) (locs : List Loc) : Prop := va_P (dC, dI) vwCl (cW Q s ++ (rW P r ++ wOut qO kO fo)) H ∧ va_D A (cW Q s ++ (rW P r ++ wOut qO kO fo)) ∧ va_S A H0 H locs ∧ H.size = CS.hs s
theorem LPW.free {dC : Nat → ClassId} {dI : Nat → Nat → Nat} {Q : CQ} {P : RQ} {qO : Nat} {kO : ClassId} {A : Nat → Prop} {H0 : Heap} {s : CS} {r : RS} {fo : Nat → Int64} {H : Heap} {locs : List Loc} (h : LPW dC dI Q P qO kO A H0 s r fo H locs) (hA : ∀ q : Nat, H0.size ≤ q → A q) {wc : va_W} (hw : ∀ q ∈ wc, q ∈ cW Q s ++ (rW P r ++ wOut qO kO fo)) : ∀ q, va_A wc H.size q → A q := fun q hq => by
  rcases hq.mem with ⟨e, he⟩ | he
  · exact h.2.1.nd.2 _ (hw _ he)
  · exact hA q (Nat.le_trans h.2.2.1.1 he)
section LawRows
variable {p : Program} {l : Launch} {e : Env} {R : Room} {s : State} {m : MethodId} {args : Array Value} {below : List Frame} {meth : Method} {c : Code} {H : Heap} {locs : List Loc} {cells slots : Nat} {Z : State → Prop}
variable {pc : Nat} {ls : Array Slot} {rest st0 : List Value} {a : Array Value} {A : Nat → Prop} {H0 : Heap} {mc ms : Nat}
variable {dC : Nat → ClassId} {dI : Nat → Nat → Nat} {Q : CQ} {P : RQ} {qO : Nat} {kO : ClassId} {σ : CS} {ρ : RS} {fo : Nat → Int64}
/-- a call of the class -/
theorem lx_i {T : Int32 × CS} (hL : LPW dC dI Q P qO kO A H0 σ ρ fo H locs) (hA : ∀ q : Nat, H0.size ≤ q → A q) (run : va_Run p l e R s m args below meth c H locs cells slots mc ms (F0 m pc ls st0) rest (va_Qi (fun (r : Int32) (_ : Unit) => r = T.1) (fun (_ : Unit) (t : State) => zPost dC dI (va_A (cW Q σ) (CS.hs σ)) (cW Q T.2) (cT Q) t ∧ t.heap.size = CS.hs T.2) (va_A (cW Q σ) (CS.hs σ)) a) (va_A (cW Q σ) (CS.hs σ)))
    (kk : ∀ (H : Heap) (locs : List Loc), LPW dC dI Q P qO kO A H0 T.2 ρ fo H locs → W p l e R s m args below meth c H locs (cells + mc) (slots + ms) Z (F0 m (pc + 3) ls (.int T.1 :: rest))) : W p l e R s m args below meth c H locs cells slots Z (F0 m pc ls st0) := by
  have hF := hL.free hA (wc := cW Q σ) (fun q hq => List.mem_append_left _ hq)
  obtain ⟨hP, hD, hS, hz⟩ := hL
  rw [hz] at hF
  refine va_calli run hS (fun q _ h => hF q h) hF (fun r u t H1 locs1 ht hvm hw hB hz1 hk1 hS1 => ?_)
  obtain ⟨⟨hP1, hK1, hD1⟩, hsz1⟩ := hB
  rw [ht] at hP1 hsz1
  rw [← hz] at hk1 hF hD1
  obtain ⟨hP2, hD2⟩ := vj hP hD hk1 hF hP1 hD1
  have e : r = T.1 := hw
  rw [e]
  exact kk H1 locs1 ⟨hP2, hD2, hS1, hsz1⟩
/-- a call of the reference -/
theorem lx_m {T : Int32 × RS} (hL : LPW dC dI Q P qO kO A H0 σ ρ fo H locs) (hA : ∀ q : Nat, H0.size ≤ q → A q) (run : va_Run p l e R s m args below meth c H locs cells slots mc ms (F0 m pc ls st0) rest (va_Qi (fun (r : Int32) (_ : Unit) => r = T.1) (fun (_ : Unit) (t : State) => zPost dC dI (va_A (rW P ρ) H.size) (rW P T.2) (rT P) t) (va_A (rW P ρ) H.size) a) (va_A (rW P ρ) H.size))
    (kk : ∀ (n : Nat) (H : Heap) (locs : List Loc), CS.hs σ ≤ n → LPW dC dI Q P qO kO A H0 (CS.setHs σ n) T.2 fo H locs → W p l e R s m args below meth c H locs (cells + mc) (slots + ms) Z (F0 m (pc + 3) ls (.int T.1 :: rest))) : W p l e R s m args below meth c H locs cells slots Z (F0 m pc ls st0) := by
  have hF := hL.free hA (wc := rW P ρ) (fun q hq => List.mem_append_right _ (List.mem_append_left _ hq))
  obtain ⟨hP, hD, hS, hz⟩ := hL
  have pm : (cW Q σ ++ (rW P ρ ++ wOut qO kO fo)).Perm (rW P ρ ++ (cW Q σ ++ wOut qO kO fo)) := by
    rw [← List.append_assoc, ← List.append_assoc]
    exact List.Perm.append_right _ List.perm_append_comm
  refine va_calli run hS (fun q _ h => hF q h) hF (fun r u t H1 locs1 ht hvm hw hB hz1 hk1 hS1 => ?_)
  obtain ⟨hP1, hK1, hD1⟩ := hB
  rw [ht] at hP1
  obtain ⟨hP2, hD2⟩ := vj (hP.pm pm) (hD.pm pm) hk1 hF hP1 hD1
  have pm2 : (rW P T.2 ++ (cW Q σ ++ wOut qO kO fo)).Perm (cW Q σ ++ (rW P T.2 ++ wOut qO kO fo)) := by
    rw [← List.append_assoc, ← List.append_assoc]
    exact List.Perm.append_right _ List.perm_append_comm
  have e : r = T.1 := hw
  rw [e]
  exact kk H1.size H1 locs1 (by rw [← hz]; exact hz1) ⟨hP2.pm pm2, hD2.pm pm2, hS1, rfl⟩
end LawRows
