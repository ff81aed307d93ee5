/-! the law: rounds -/
def cWt (Q : CQ) (s : CS) : va_W := (cW Q s).tail
theorem cW_cons (Q : CQ) (s : CS) : cW Q s = (Q.o 0, .inr (10, cFX11 Q s)) :: cWt Q s := rfl
def wXO (Q : CQ) (s : CS) (qO : Nat) (kO : ClassId) (fo : Nat → Int64) : va_W := [(Q.o 0, .inr (10, cFX11 Q s)), (qO, .inl (kO, 1, .inr (.inl fo)))]
theorem wXO.pm (Q : CQ) (s : CS) (qO : Nat) (kO : ClassId) (fo : Nat → Int64) (P : RQ) (r : RS) : (cW Q s ++ (rW P r ++ wOut qO kO fo)).Perm (wXO Q s qO kO fo ++ (cWt Q s ++ rW P r)) := by
  rw [cW_cons]
  show ((Q.o 0, .inr (10, cFX11 Q s)) :: (cWt Q s ++ (rW P r ++ wOut qO kO fo))).Perm ((Q.o 0, .inr (10, cFX11 Q s)) :: (wOut qO kO fo ++ (cWt Q s ++ rW P r)))
  refine List.Perm.cons _ ?_
  rw [← List.append_assoc]
  exact List.perm_append_comm
section LawRows2
variable {p : Program} {l : Launch} {e : Env} {R : Room} {s : State} {m : MethodId} {args : Array Value} {below : List Frame} {meth : Method} {c : Code} {H : Heap} {locs : List Loc} {cells slots : Nat} {Z : State → Prop}
variable {pc : Nat} {ls : Array Slot} {rest st0 : List Value} {a : Array Value} {A : Nat → Prop} {H0 : Heap} {mc ms : Nat}
variable {dC : Nat → ClassId} {dI : Nat → Nat → Nat} {Q : CQ} {P : RQ} {qO : Nat} {kO : ClassId} {σ : CS} {ρ : RS} {fo fo' : Nat → Int64}
theorem LPW.o (hL : LPW dC dI Q P qO kO A H0 σ ρ fo H locs) (hA : ∀ q : Nat, H0.size ≤ q → A q) : va_P (dC, dI) vwCl (wXO Q σ qO kO fo) H ∧ va_D A (wXO Q σ qO kO fo) ∧ ∀ q, va_A (wXO Q σ qO kO fo) H.size q → A q := by
  have pm := wXO.pm Q σ qO kO fo P ρ
  refine ⟨(hL.1.pm pm).mm (fun _ hq => List.mem_append_left _ hq), (hL.2.1.pm pm).left, hL.free hA (fun q hq => pm.mem_iff.mpr (List.mem_append_left _ hq))⟩
/-- a call of the law's own rounds -/
theorem lx_o {r0 : Int32} (hL : LPW dC dI Q P qO kO A H0 σ ρ fo H locs) (hA : ∀ q : Nat, H0.size ≤ q → A q) (run : va_Run p l e R s m args below meth c H locs cells slots mc ms (F0 m pc ls st0) rest (va_Qi (fun (r : Int32) (_ : Unit) => r = r0) (fun (_ : Unit) (t : State) => zPost dC dI (va_A (wXO Q σ qO kO fo) H.size) (wXO Q σ qO kO fo') [(kO, .long)] t) (va_A (wXO Q σ qO kO fo) H.size) a) (va_A (wXO Q σ qO kO fo) H.size))
    (kk : ∀ (n : Nat) (H : Heap) (locs : List Loc), CS.hs σ ≤ n → LPW dC dI Q P qO kO A H0 (CS.setHs σ n) ρ fo' H locs → W p l e R s m args below meth c H locs (cells + mc) (slots + ms) Z (F0 m (pc + 3) ls (.int r0 :: rest))) : W p l e R s m args below meth c H locs cells slots Z (F0 m pc ls st0) := by
  obtain ⟨-, -, hF⟩ := hL.o hA
  obtain ⟨hP, hD, hS, hz⟩ := hL
  refine va_calli run hS (fun q _ h => hF q h) hF (fun r u t H1 locs1 ht hvm hw hB hz1 hk1 hS1 => ?_)
  obtain ⟨hP1, hK1, hD1⟩ := hB
  rw [ht] at hP1
  have pm := wXO.pm Q σ qO kO fo P ρ
  have pm2 := (wXO.pm Q σ qO kO fo' P ρ).symm
  obtain ⟨hP2, hD2⟩ := vj (hP.pm pm) (hD.pm pm) hk1 hF hP1 hD1
  have e : r = r0 := hw
  rw [e]
  exact kk H1.size H1 locs1 (by rw [← hz]; exact hz1) ⟨hP2.pm pm2, hD2.pm pm2, hS1, rfl⟩
end LawRows2
theorem BUD.wk {h : Nat} {s : CS} {rest cells slots : Nat} (hB : BUD h s (rest + 1) cells slots) : BUD h s rest cells slots := by
  unfold BUD at *
  omega
theorem BUD.ex {h : Nat} {s : CS} {rest cells slots n : Nat} (hB : BUD h s (rest + 1) cells slots) (hn : CS.hs s ≤ n) : BUD (h + (n - CS.hs s)) (CS.setHs s n) rest (cells + 1) (slots + 6) := by
  unfold BUD at *
  show cells + 1 + (h + (n - CS.hs s) - n) + rest ≤ 500000 ∧ slots + 6 + 17 * (h + (n - CS.hs s) - n) + 6 * rest ≤ 7000000
  omega
theorem BUD.ok1 {h : Nat} {s : CS} {rest cells slots : Nat} (hB : BUD h s (rest + 1) cells slots) : cells + 1 ≤ room_1.cells ∧ slots + 6 ≤ room_1.slots := by
  unfold BUD at hB
  show cells + 1 ≤ 601024 ∧ slots + 6 ≤ 7293034
  omega
/-- what the reference answers -/
theorem q_rnd {r : RS} (h : RI r) (x y : Int32) : ∃ U, f_X12_rounds 10000000000 r x y = some U ∧ RI U.2 ∧ (x < 0 ∨ y < 0 → U.1 = -1 ∧ U.2.i 0 = 0) ∧ (¬ x < 0 → y = 0 → U.2.i 0 = 1) ∧ (¬ x < 0 → ¬ y < 0 → ¬ y = 0 → U.1 = zR x y ∧ U.2.i 0 = 0) := by
  unfold f_X12_rounds f_X12_rounds_13
  have e0 : (RS.setI r 0 0).i 0 = 0 := rfl
  by_cases c1 : x < 0
  · rw [if_pos c1]
    exact ⟨_, rfl, h.i0 0, fun _ => ⟨rfl, e0⟩, fun q => absurd c1 q, fun q => absurd c1 q⟩
  · rw [if_neg c1]
    by_cases c2 : y < 0
    · rw [if_neg (Int32.not_le.mpr c2)]
      refine ⟨_, rfl, h.i0 0, fun _ => ⟨rfl, e0⟩, fun _ q => ?_, fun _ q => absurd c2 q⟩
      rw [q] at c2
      exact absurd c2 (by decide)
    · rw [if_pos (Int32.not_lt.mp c2)]
      by_cases c3 : y = 0
      · rw [if_pos c3]
        refine ⟨_, rfl, (h.i0 0).i0 1, fun q => q.elim (fun z => absurd z c1) (fun z => absurd z c2), fun _ _ => rfl, fun _ _ q => absurd c3 q⟩
      · rw [if_neg c3, if_neg c3]
        by_cases c4 : x - x / y * y ≤ 0
        · rw [if_pos c4]
          refine ⟨_, rfl, h.i0 0, fun q => q.elim (fun z => absurd z c1) (fun z => absurd z c2), fun _ q => absurd q c3, fun _ _ _ => ⟨?_, e0⟩⟩
          unfold zR
          rw [if_pos (z_rem c1 c2 c3 c4)]
        · rw [if_neg c4]
          refine ⟨_, rfl, h.i0 0, fun q => q.elim (fun z => absurd z c1) (fun z => absurd z c2), fun _ q => absurd q c3, fun _ _ _ => ⟨?_, e0⟩⟩
          unfold zR
          rw [if_neg (fun q => c4 (by rw [q]; decide))]
