set_option maxHeartbeats 4000000 in
set_option maxRecDepth 100000 in
theorem z_fin {p : Program} {e : Env} {s : State} {m : MethodId} {below : List Frame} {meth : Method} {c : Code} (l : Launch) {b : Nat} {xs : Nat → Int32} {A : Nat → Prop} {L : Nat} (C0 : lw_At p s m meth c b L xs) (hA : ∀ q : Nat, s.heap.size ≤ q → A q) (hAr : ∀ q : Nat, A q → s.heap.size ≤ q) {H : Heap} {locs : List Loc} {ls : Array Slot} {cells slots : Nat} (hc9 : cells ≤ 600002) (hs9 : slots ≤ 7302231) (hS : va_S A s.heap H locs) : W p l e room_1 s m #[Value.ref b] below meth c H locs cells slots (lw_Z below #[Value.ref b] s) (F0 m 635 ls []) := by
  obtain ⟨hx, hb, hr, hml, hown, hts, hSc, hbl, hlocks, hgv⟩ := id C0
  have hown : s.vm.findClass RL = some m.cls := hown
  have hbA : ¬ A b := fun h => absurd (hAr b h) (Nat.not_le.mpr hbl)
  refine lv_iconst (v := 1) hx hb dL_law_635 (by decide) ?_
  refine va_forget (fun q hq => hAr _ (hS.2.2 q hq)) ?_
  refine W.widen (k := 600002) (n := 7302231) hc9 hs9 ?_
  exact lw_ret hx hb hr hlocks dL_law_636
set_option maxHeartbeats 4000000 in
set_option maxRecDepth 100000 in
theorem z_end {p : Program} {e : Env} {s : State} {m : MethodId} {below : List Frame} {meth : Method} {c : Code} (l : Launch) {b : Nat} {xs : Nat → Int32} {A : Nat → Prop} (C0 : lw_At p s m meth c b 6 xs) (hA : ∀ q : Nat, s.heap.size ≤ q → A q) (hAr : ∀ q : Nat, A q → s.heap.size ≤ q) {H : Heap} {locs : List Loc} {ls : Array Slot} {cells slots : Nat} (hc9 : cells ≤ 600002) (hs9 : slots ≤ 7302231) (hS : va_S A s.heap H locs) (hl : lv_has ls 7 [(4, .int 0), (0, .ref b)]) : W p l e room_1 s m #[Value.ref b] below meth c H locs cells slots (lw_Z below #[Value.ref b] s) (F0 m 629 ls []) := by
  obtain ⟨hx, hb, hr, hml, hown, hts, hSc, hbl, hlocks, hgv⟩ := id C0
  have hown : s.vm.findClass RL = some m.cls := hown
  have hbA : ¬ A b := fun h => absurd (hAr b h) (Nat.not_le.mpr hbl)
  refine lv_iinc (v := 6) (lv' := [(4, .int 6), (0, .ref b)]) hx hb dL_law_629 hl (k := 0) rfl (by decide) (by decide) rfl (fun ls hl => ?_)
  refine lv_goto (tgt := 23) hx hb dL_law_632 (by decide) ?_
  refine lv_iload hx hb dL_law_23 (lv_at hl 0 rfl) ?_
  refine lv_aload_n hx hb dL_law_25 rfl (lv_at hl 1 rfl) ?_
  refine va_slen hx hb hSc hbl hbA hS dL_law_26 ?_
  refine W.eq (g2 := F0 m 27 ls [.int 6, .int 6]) rfl ?_
  refine lv_bipush (v := 6) hx hb dL_law_27 (by decide) ?_
  refine lv_isub hx hb dL_law_29 ?_
  refine lv_topi (fun z1 ez1 => ?_)
  obtain rfl : z1 = 0 := ez1.trans (by decide)
  refine lv_icmp_gt (tgt := 635) hx hb dL_law_30 (by decide) (fun _ => ?_) (fun c9 => absurd (by decide) c9)
  exact z_fin l C0 hA hAr hc9 hs9 hS
