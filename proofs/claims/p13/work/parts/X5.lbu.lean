/-! the law: what is spent, and each of its cases -/
def BUD (h : Nat) (s : CS) (rest cells slots : Nat) : Prop := cells + (h - CS.hs s) + rest ≤ 500000 ∧ slots + 17 * (h - CS.hs s) + 6 * rest ≤ 7000000
theorem BUD.ok {h : Nat} {s : CS} {rest cells slots n : Nat} (hB : BUD h s rest cells slots) (mo : CS.hs s ≤ n) (lt : n ≤ h) : cells + (n - CS.hs s) ≤ room_1.cells ∧ slots + 17 * (n - CS.hs s) ≤ room_1.slots := by
  unfold BUD at hB
  show cells + (n - CS.hs s) ≤ 601024 ∧ slots + 17 * (n - CS.hs s) ≤ 7293034
  omega
theorem BUD.ok0 {h : Nat} {s : CS} {rest cells slots : Nat} (hB : BUD h s rest cells slots) : cells + 0 ≤ room_1.cells ∧ slots + 0 ≤ room_1.slots := by
  unfold BUD at hB
  show cells + 0 ≤ 601024 ∧ slots + 0 ≤ 7293034
  omega
theorem BUD.go {h : Nat} {s t : CS} {rest cells slots : Nat} (hB : BUD h s rest cells slots) (mo : CS.hs s ≤ CS.hs t) (lt : CS.hs t ≤ h) : BUD h t rest (cells + (CS.hs t - CS.hs s)) (slots + 17 * (CS.hs t - CS.hs s)) := by
  unfold BUD at *
  omega
theorem BUD.hs {h : Nat} {s : CS} {rest cells slots n : Nat} (hB : BUD h s rest cells slots) (hn : CS.hs s ≤ n) : BUD (h + (n - CS.hs s)) (CS.setHs s n) rest (cells + 0) (slots + 0) := by
  unfold BUD at *
  show cells + 0 + (h + (n - CS.hs s) - n) + rest ≤ 500000 ∧ slots + 0 + 17 * (h + (n - CS.hs s) - n) + 6 * rest ≤ 7000000
  omega
theorem va_D.left {A : Nat → Prop} {a b : va_W} (h : va_D A (a ++ b)) : va_D A a := by
  obtain ⟨h1, h2⟩ := h.nd
  rw [List.map_append] at h1
  exact va_D.of (List.nodup_append.mp h1).1 (fun q hq => h2 q (List.mem_append_left _ hq))
theorem va_D.right {A : Nat → Prop} {a b : va_W} (h : va_D A (a ++ b)) : va_D A b := by
  obtain ⟨h1, h2⟩ := h.nd
  rw [List.map_append] at h1
  exact va_D.of (List.nodup_append.mp h1).2.1 (fun q hq => h2 q (List.mem_append_right _ hq))
theorem LPW.c {dC : Nat → ClassId} {dI : Nat → Nat → Nat} {Q : CQ} {P : RQ} {qO : Nat} {kO : ClassId} {A : Nat → Prop} {H0 : Heap} {s : CS} {r : RS} {fo : Nat → Int64} {H : Heap} {locs : List Loc} (h : LPW dC dI Q P qO kO A H0 s r fo H locs) : CP dC dI Q A H0 s H locs := ⟨h.1.mm (fun _ hq => List.mem_append_left _ hq), h.2.1.left, h.2.2.1, h.2.2.2⟩
theorem LPW.m {dC : Nat → ClassId} {dI : Nat → Nat → Nat} {Q : CQ} {P : RQ} {qO : Nat} {kO : ClassId} {A : Nat → Prop} {H0 : Heap} {s : CS} {r : RS} {fo : Nat → Int64} {H : Heap} {locs : List Loc} (h : LPW dC dI Q P qO kO A H0 s r fo H locs) : va_P (dC, dI) vwCl (rW P r) H ∧ va_D A (rW P r) := ⟨h.1.mm (fun _ hq => List.mem_append_right _ (List.mem_append_left _ hq)), h.2.1.right.left⟩
theorem z_in {L i k : Nat} {x z w : Int32} (hx : x = nI i) (hk : w = nI k) (hi : i + 6 ≤ L) (k6 : k < 6) (hL : L < 2 ^ 31) (hz : z = x + w) : vp_in z L := by
  have e : z = nI (i + k) := by
    rw [hz, hx, hk]
    refine Int32.toInt_inj.mp ?_
    show (Int32.ofNat i + Int32.ofNat k).toInt = (Int32.ofNat (i + k)).toInt
    rw [← Int32.ofNat_add]
  rw [e]
  exact vp_in_nI (by omega) hL
theorem TLP.hs {s : CS} {r : RS} (h : TLP s r) (n : Nat) : TLP (CS.setHs s n) r := ⟨h.1, h.2.1, fun z => (h.2.2.1 z).cg ⟨⟨rfl, rfl, rfl⟩, fun _ _ _ => rfl, Int.le_refl _, rfl, rfl⟩ rfl, h.2.2.2.1, h.2.2.2.2⟩
/-- what stands in the law: its worlds, what is left to spend, what was told -/
def LST (dC : Nat → ClassId) (dI : Nat → Nat → Nat) (Q : CQ) (P : RQ) (qO : Nat) (kO : ClassId) (A : Nat → Prop) (H0 : Heap) (rest cells slots : Nat) (H : Heap) (locs : List Loc) : Prop := ∃ (s : CS) (r : RS) (fo : Nat → Int64) (h : Nat), CIV h s ∧ RI r ∧ LPW dC dI Q P qO kO A H0 s r fo H locs ∧ BUD h s rest cells slots ∧ TLP s r
