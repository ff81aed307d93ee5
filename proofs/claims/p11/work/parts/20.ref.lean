set_option maxHeartbeats 4000000 in
set_option maxRecDepth 100000 in
theorem j_X12_in_14 {p : Program} {e : Env} {s : State} {m : MethodId} {args : Array Value} {below : List Frame} {meth : Method} {c : Code} {A : Nat → Prop} (l : Launch) (dC : Nat → ClassId) (dI : Nat → Nat → Nat) (Q : RQ) (N : Nat) (R : Int32 × RS) (hx : p.tables.exec = Jvm.exec) (hb : c.code = cX12_in) (hr : meth.sig.returnType = (some .boolean)) (hml : c.maxLocals = 3) (hown : s.vm.findClass RX12 = some m.cls) (hts : ∀ w ∈ wzX12_in, w.before args s = true) (hlocks : meth.locks = false) (hZ : zAMB s) (hA : ∀ q : Nat, s.heap.size ≤ q → A q) (hK : va_K (dC, dI) vwCl (rT Q) s) : ∀ (σ : RS) (H : Heap) (locs : List Loc) (ls : Array Slot), f_X12_in_14 N σ = some R → va_P (dC, dI) vwCl (rW Q σ) H → va_D A (rW Q σ) → va_S A s.heap H locs → lv_has ls 3 [] → W p l e ({ frames := 1, cells := 0, slots := 0, locals := 60 }) s m args below meth c H locs 0 0 (MQ below (va_Qi (fun (r : Int32) (_ : Unit) => r = R.1) (fun (_ : Unit) (t : State) => zPost dC dI A (rW Q R.2) (rT Q) t) A) args s 0 0 A) (F0 m 14 ls []) := by
  intro σ  H locs ls hf hP hD hS hl
  unfold f_X12_in_14 at hf
  refine lv_iconst (v := 0) hx hb dX12_in_14 (by decide) ?_
  obtain rfl := Option.some.inj hf
  exact W.zret (v := 0) hx hb hr (rfl) (fun t ht hW => ⟨⟨0, (), rfl, rfl, by rw [ht]; exact hP, va_K.moved hW.alike hK, hD⟩, hS.F ht⟩) hS.2.2 dX12_in_15
set_option maxHeartbeats 4000000 in
set_option maxRecDepth 100000 in
theorem c_X12_in (l : Launch) (dC : Nat → ClassId) (dI : Nat → Nat → Nat) (sz : Nat) (Q : RQ) (N : Nat) (σ : RS) (x0 : Int32) (x1 : Int32) (x2 : Int32) (R : Int32 × RS) (hf : f_X12_in N σ x0 x1 x2 = some R) : Met l yX12_in wzX12_in ({ frames := 1, cells := 0, slots := 0, locals := 60 }) (va_Pc [.int x0, .int x1, .int x2] (zPre dC dI sz (rW Q σ) (rT Q))) (va_Qi (fun (r : Int32) (_ : Unit) => r = R.1) (fun (_ : Unit) (t : State) => zPost dC dI (va_A (rW Q σ) sz) (rW Q R.2) (rT Q) t) (va_A (rW Q σ) sz)) 0 0 (va_A (rW Q σ) sz) := by
  refine Met.ofW (cc := cX12_in) (maxL := 3) (ret := (some .boolean)) (by decide) rfl ?_
  intro p e s m args below meth c s₁ B hml hv
  obtain ⟨rfl, hsz, hZ, hP, hK, hD0⟩ := hv
  have hx := B.exec
  have hb := B.bytes
  have hr := B.returns
  have hts := atoms_spec (ws := wzX12_in) B.pre
  have hown : s.vm.findClass RX12 = some m.cls := findClass_of_methodNamed B.named
  have hlocks := B.notSynchronized
  subst hsz
  have hD := hD0.self (sz := s.heap.size)
  generalize hAe : va_A (rW Q σ) s.heap.size = A at hD ⊢
  have hA : ∀ q : Nat, s.heap.size ≤ q → A q := fun q h => by rw [← hAe]; exact Or.inr h
  have hS : va_S A s.heap s.heap [] := va_S.rf
  have hl := lv_entry ([.int x0, .int x1, .int x2]) (n := 3) (Nat.le_of_ble_eq_true rfl)
  rw [lg_entry_eq]
  generalize (lg_sl ([.int x0, .int x1, .int x2]) ++ List.replicate (3 - (lg_sl ([.int x0, .int x1, .int x2])).length) Slot.unset).toArray = ls at hl ⊢
  have hl : lv_has ls 3 [(0, .int x0), (1, .int x1), (2, .int x2)] := hl
  unfold f_X12_in at hf
  refine lv_iload_n hx hb dX12_in_0 rfl (lv_at hl 0 rfl) ?_
  refine lv_iload_n hx hb dX12_in_1 rfl (lv_at hl 1 rfl) ?_
  refine lv_icmp_lt (tgt := 14) hx hb dX12_in_2 (by decide) (fun c1 => ?_) (fun c1 => ?_)
  ·
    replace hf := (if_pos c1).symm.trans hf
    exact j_X12_in_14 l dC dI Q N R hx hb hr hml hown hts hlocks hZ hA hK σ _ _ _ hf hP hD hS (lv_sub hl [] rfl)
  ·
    replace hf := (if_neg c1).symm.trans hf
    refine lv_iload_n hx hb dX12_in_5 rfl (lv_at hl 0 rfl) ?_
    refine lv_iload_n hx hb dX12_in_6 rfl (lv_at hl 2 rfl) ?_
    refine lv_icmp_gt (tgt := 14) hx hb dX12_in_7 (by decide) (fun c2 => ?_) (fun c2 => ?_)
    ·
      replace hf := (if_pos c2).symm.trans hf
      exact j_X12_in_14 l dC dI Q N R hx hb hr hml hown hts hlocks hZ hA hK σ _ _ _ hf hP hD hS (lv_sub hl [] rfl)
    ·
      replace hf := (if_neg c2).symm.trans hf
      refine lv_iconst (v := 1) hx hb dX12_in_10 (by decide) ?_
      refine lv_goto (tgt := 15) hx hb dX12_in_11 (by decide) ?_
      obtain rfl := Option.some.inj hf
      exact W.zret (v := 1) hx hb hr (rfl) (fun t ht hW => ⟨⟨1, (), rfl, rfl, by rw [ht]; exact hP, va_K.moved hW.alike hK, hD⟩, hS.F ht⟩) hS.2.2 dX12_in_15
theorem k_X12_feed_fieldLink_RX12_273_SRModel_thrown_I : Cond.fieldLink RX12 273 "StatementRules2Model" "thrown" "I" ∈ wzX12_feed := List.mem_cons_of_mem _ (List.mem_append_left _ (List.mem_of_getElem? (i := 0) rfl))
theorem i_X12_feed_X12 : ∀ w ∈ wsX120, w ∈ wzX12_feed := fun _ h => List.mem_cons_of_mem _ (List.mem_append_right _ (List.mem_append_left _ (h)))
theorem k_X12_feed_fieldLink_RX12_276_SRModel_taped_I : Cond.fieldLink RX12 276 "StatementRules2Model" "taped" "I" ∈ wzX12_feed := List.mem_cons_of_mem _ (List.mem_append_left _ (List.mem_of_getElem? (i := 1) rfl))
theorem k_X12_feed_fieldLink_RX12_7_SRModel_tape_I : Cond.fieldLink RX12 7 "StatementRules2Model" "tape" "[I" ∈ wzX12_feed := List.mem_cons_of_mem _ (List.mem_append_left _ (List.mem_of_getElem? (i := 2) rfl))
set_option maxHeartbeats 4000000 in
set_option maxRecDepth 100000 in
theorem j_X12_feed_24 {p : Program} {e : Env} {s : State} {m : MethodId} {args : Array Value} {below : List Frame} {meth : Method} {c : Code} {A : Nat → Prop} (l : Launch) (dC : Nat → ClassId) (dI : Nat → Nat → Nat) (Q : RQ) (N : Nat) (R : Int32 × RS) (hx : p.tables.exec = Jvm.exec) (hb : c.code = cX12_feed) (hr : meth.sig.returnType = (some .int)) (hml : c.maxLocals = 8) (hown : s.vm.findClass RX12 = some m.cls) (hts : ∀ w ∈ wzX12_feed, w.before args s = true) (hlocks : meth.locks = false) (hZ : zAMB s) (hA : ∀ q : Nat, s.heap.size ≤ q → A q) (hK : va_K (dC, dI) vwCl (rT Q) s) : ∀ (n9 : Nat), ∀ (σ : RS) (x1 : Int32) (x2 : Int32) (x3 : Int32) (x4 : Int32) (x5 : Int32) (x6 : Int32) (H : Heap) (locs : List Loc) (ls : Array Slot), f_X12_feed_24 N n9 σ x1 x2 x3 x4 x5 x6 = some R → va_P (dC, dI) vwCl (rW Q σ) H → va_D A (rW Q σ) → va_S A s.heap H locs → lv_has ls 8 [(0, .ref Q.h0), (1, .int x1), (2, .int x2), (3, .int x3), (4, .int x4), (5, .int x5), (6, .int x6)] → W p l e ({ frames := 1, cells := 0, slots := 0, locals := 60 }) s m args below meth c H locs 0 0 (MQ below (va_Qi (fun (r : Int32) (_ : Unit) => r = R.1) (fun (_ : Unit) (t : State) => zPost dC dI A (rW Q R.2) (rT Q) t) A) args s 0 0 A) (F0 m 24 ls []) := by
  intro n9
  induction n9 with
  | zero => intro σ x1 x2 x3 x4 x5 x6 H locs ls hf; exact absurd hf (by intro h9; cases h9)
  | succ n9 ih =>
    intro σ x1 x2 x3 x4 x5 x6 H locs ls hf hP hD hS hl
    replace hf : b_X12_feed_24 N (f_X12_feed_24 N n9) σ x1 x2 x3 x4 x5 x6 = some R := hf
    unfold b_X12_feed_24 at hf
    refine lv_iload hx hb dX12_feed_24 (lv_at hl 6 rfl) ?_
    refine lv_bipush (v := 20) hx hb dX12_feed_26 (by decide) ?_
    refine lv_icmp_ge (tgt := 114) hx hb dX12_feed_28 (by decide) (fun c2 => ?_) (fun c2 => ?_)
    ·
      replace hf := (if_pos c2).symm.trans hf
      refine lv_aload_n hx hb dX12_feed_114 rfl (lv_at hl 0 rfl) ?_
      refine lv_dup hx hb dX12_feed_115 rfl ?_
      refine rG_2 (v := (σ.i 2)) hx hb hts i_X12_feed_X12 hown hK hP (hts (.fieldLink RX12 276 "StatementRules2Model" "taped" "I") k_X12_feed_fieldLink_RX12_276_SRModel_taped_I) dX12_feed_116 rfl ?_
      refine lv_bipush (v := 20) hx hb dX12_feed_119 (by decide) ?_
      refine lv_iadd hx hb dX12_feed_121 ?_
      refine rP_2 hx hb hts i_X12_feed_X12 hown hK hP hD hS (hts (.fieldLink RX12 276 "StatementRules2Model" "taped" "I") k_X12_feed_fieldLink_RX12_276_SRModel_taped_I) dX12_feed_122 (fun H locs hP hD hS => ?_)
      refine lv_aload_n hx hb dX12_feed_125 rfl (lv_at hl 0 rfl) ?_
      refine rG_2 (v := ((σ.i 2) + 20)) hx hb hts i_X12_feed_X12 hown hK hP (hts (.fieldLink RX12 276 "StatementRules2Model" "taped" "I") k_X12_feed_fieldLink_RX12_276_SRModel_taped_I) dX12_feed_126 rfl ?_
      obtain rfl := Option.some.inj hf
      exact W.iret (v := ((σ.i 2) + 20)) hx hb hr (fun t ht hW => ⟨⟨((σ.i 2) + 20), (), rfl, rfl, by rw [ht]; exact hP, va_K.moved hW.alike hK, hD⟩, hS.F ht⟩) hS.2.2 dX12_feed_129
    ·
      replace hf := (if_neg c2).symm.trans hf
      refine lv_iload hx hb dX12_feed_31 (lv_at hl 6 rfl) ?_
      refine lv_iconst (v := 4) hx hb dX12_feed_33 (by decide) ?_
      refine lv_icmp_ge (tgt := 41) hx hb dX12_feed_34 (by decide) (fun c3 => ?_) (fun c3 => ?_)
      ·
        replace hf := (if_pos c3).symm.trans hf
        refine lv_iload hx hb dX12_feed_41 (lv_at hl 6 rfl) ?_
        refine lv_bipush (v := 8) hx hb dX12_feed_43 (by decide) ?_
        refine lv_icmp_ge (tgt := 52) hx hb dX12_feed_45 (by decide) (fun c4 => ?_) (fun c4 => ?_)
        ·
          replace hf := (if_pos c4).symm.trans hf
          refine lv_iload hx hb dX12_feed_52 (lv_at hl 6 rfl) ?_
          refine lv_bipush (v := 12) hx hb dX12_feed_54 (by decide) ?_
          refine lv_icmp_ge (tgt := 63) hx hb dX12_feed_56 (by decide) (fun c5 => ?_) (fun c5 => ?_)
          ·
            replace hf := (if_pos c5).symm.trans hf
            refine lv_iload hx hb dX12_feed_63 (lv_at hl 6 rfl) ?_
            refine lv_bipush (v := 16) hx hb dX12_feed_65 (by decide) ?_
            refine lv_icmp_ge (tgt := 75) hx hb dX12_feed_67 (by decide) (fun c6 => ?_) (fun c6 => ?_)
            ·
              replace hf := (if_pos c6).symm.trans hf
              refine lv_iload hx hb dX12_feed_75 (lv_at hl 5 rfl) ?_
              refine lv_istore (lv' := [(7, .int x5), (0, .ref Q.h0), (1, .int x1), (2, .int x2), (3, .int x3), (4, .int x4), (5, .int x5), (6, .int x6)]) hx hb dX12_feed_77 hl (by decide) rfl (fun ls hl => ?_)
              refine lv_aload_n hx hb dX12_feed_79 rfl (lv_at hl 1 rfl) ?_
              refine rG_1 hx hb hts i_X12_feed_X12 hown hK hP (hts (.fieldLink RX12 7 "StatementRules2Model" "tape" "[I") k_X12_feed_fieldLink_RX12_7_SRModel_tape_I) dX12_feed_80 ?_
              refine lv_aload_n hx hb dX12_feed_83 rfl (lv_at hl 1 rfl) ?_
              refine rG_2 (v := (σ.i 2)) hx hb hts i_X12_feed_X12 hown hK hP (hts (.fieldLink RX12 276 "StatementRules2Model" "taped" "I") k_X12_feed_fieldLink_RX12_276_SRModel_taped_I) dX12_feed_84 rfl ?_
              refine lv_iload hx hb dX12_feed_87 (lv_at hl 7 rfl) ?_
              refine lv_iadd hx hb dX12_feed_89 ?_
              refine lv_iload hx hb dX12_feed_90 (lv_at hl 0 rfl) ?_
              refine lv_bipush (v := 24) hx hb dX12_feed_92 (by decide) ?_
              refine lv_bipush (v := 8) hx hb dX12_feed_94 (by decide) ?_
              refine lv_iload hx hb dX12_feed_96 (lv_at hl 7 rfl) ?_
              refine lv_iconst (v := 4) hx hb dX12_feed_98 (by decide) ?_
              refine lv_irem hx hb dX12_feed_99 (by decide) ?_
              refine lv_imul hx hb dX12_feed_100 ?_
              refine lv_isub hx hb dX12_feed_101 ?_
              refine lv_ishr hx hb dX12_feed_102 ?_
              refine lv_sipush (v := 255) hx hb dX12_feed_103 (by decide) ?_
              refine lv_iand hx hb dX12_feed_106 ?_
              obtain ⟨b7, hf⟩ := hf_ite hf
              refine rS_1 hx hb hK hP hD hS b7 dX12_feed_107 (fun H locs hP hD hS => ?_)
              refine lv_iinc (v := (x6 + 1)) (lv' := [(6, .int (x6 + 1)), (7, .int x5), (0, .ref Q.h0), (1, .int x1), (2, .int x2), (3, .int x3), (4, .int x4), (5, .int x5)]) hx hb dX12_feed_108 hl (k := 7) rfl rfl (by decide) rfl (fun ls hl => ?_)
              refine lv_goto (tgt := 24) hx hb dX12_feed_111 (by decide) ?_
              exact ih (RS.setA σ 1 ((((σ.i 2) + x6) : Int32).toNatClampNeg) ((x5 >>> ((24 - (8 * (x6 - x6 / 4 * 4))) &&& 31)) &&& 255)) x1 x2 x3 x4 x5 (x6 + 1) _ _ _ hf hP hD hS (lv_sub hl [2, 3, 4, 5, 6, 7, 0] rfl)
            ·
              replace hf := (if_neg c6).symm.trans hf
              refine lv_iload hx hb dX12_feed_70 (lv_at hl 4 rfl) ?_
              refine lv_goto (tgt := 77) hx hb dX12_feed_72 (by decide) ?_
              refine lv_istore (lv' := [(7, .int x4), (0, .ref Q.h0), (1, .int x1), (2, .int x2), (3, .int x3), (4, .int x4), (5, .int x5), (6, .int x6)]) hx hb dX12_feed_77 hl (by decide) rfl (fun ls hl => ?_)
              refine lv_aload_n hx hb dX12_feed_79 rfl (lv_at hl 1 rfl) ?_
              refine rG_1 hx hb hts i_X12_feed_X12 hown hK hP (hts (.fieldLink RX12 7 "StatementRules2Model" "tape" "[I") k_X12_feed_fieldLink_RX12_7_SRModel_tape_I) dX12_feed_80 ?_
              refine lv_aload_n hx hb dX12_feed_83 rfl (lv_at hl 1 rfl) ?_
              refine rG_2 (v := (σ.i 2)) hx hb hts i_X12_feed_X12 hown hK hP (hts (.fieldLink RX12 276 "StatementRules2Model" "taped" "I") k_X12_feed_fieldLink_RX12_276_SRModel_taped_I) dX12_feed_84 rfl ?_
              refine lv_iload hx hb dX12_feed_87 (lv_at hl 7 rfl) ?_
              refine lv_iadd hx hb dX12_feed_89 ?_
              refine lv_iload hx hb dX12_feed_90 (lv_at hl 0 rfl) ?_
              refine lv_bipush (v := 24) hx hb dX12_feed_92 (by decide) ?_
              refine lv_bipush (v := 8) hx hb dX12_feed_94 (by decide) ?_
              refine lv_iload hx hb dX12_feed_96 (lv_at hl 7 rfl) ?_
              refine lv_iconst (v := 4) hx hb dX12_feed_98 (by decide) ?_
              refine lv_irem hx hb dX12_feed_99 (by decide) ?_
              refine lv_imul hx hb dX12_feed_100 ?_
              refine lv_isub hx hb dX12_feed_101 ?_
              refine lv_ishr hx hb dX12_feed_102 ?_
              refine lv_sipush (v := 255) hx hb dX12_feed_103 (by decide) ?_
              refine lv_iand hx hb dX12_feed_106 ?_
              obtain ⟨b8, hf⟩ := hf_ite hf
              refine rS_1 hx hb hK hP hD hS b8 dX12_feed_107 (fun H locs hP hD hS => ?_)
              refine lv_iinc (v := (x6 + 1)) (lv' := [(6, .int (x6 + 1)), (7, .int x4), (0, .ref Q.h0), (1, .int x1), (2, .int x2), (3, .int x3), (4, .int x4), (5, .int x5)]) hx hb dX12_feed_108 hl (k := 7) rfl rfl (by decide) rfl (fun ls hl => ?_)
              refine lv_goto (tgt := 24) hx hb dX12_feed_111 (by decide) ?_
              exact ih (RS.setA σ 1 ((((σ.i 2) + x6) : Int32).toNatClampNeg) ((x4 >>> ((24 - (8 * (x6 - x6 / 4 * 4))) &&& 31)) &&& 255)) x1 x2 x3 x4 x5 (x6 + 1) _ _ _ hf hP hD hS (lv_sub hl [2, 3, 4, 5, 6, 7, 0] rfl)
          ·
            replace hf := (if_neg c5).symm.trans hf
            refine lv_iload_n hx hb dX12_feed_59 rfl (lv_at hl 3 rfl) ?_
            refine lv_goto (tgt := 77) hx hb dX12_feed_60 (by decide) ?_
            refine lv_istore (lv' := [(7, .int x3), (0, .ref Q.h0), (1, .int x1), (2, .int x2), (3, .int x3), (4, .int x4), (5, .int x5), (6, .int x6)]) hx hb dX12_feed_77 hl (by decide) rfl (fun ls hl => ?_)
            refine lv_aload_n hx hb dX12_feed_79 rfl (lv_at hl 1 rfl) ?_
            refine rG_1 hx hb hts i_X12_feed_X12 hown hK hP (hts (.fieldLink RX12 7 "StatementRules2Model" "tape" "[I") k_X12_feed_fieldLink_RX12_7_SRModel_tape_I) dX12_feed_80 ?_
            refine lv_aload_n hx hb dX12_feed_83 rfl (lv_at hl 1 rfl) ?_
            refine rG_2 (v := (σ.i 2)) hx hb hts i_X12_feed_X12 hown hK hP (hts (.fieldLink RX12 276 "StatementRules2Model" "taped" "I") k_X12_feed_fieldLink_RX12_276_SRModel_taped_I) dX12_feed_84 rfl ?_
            refine lv_iload hx hb dX12_feed_87 (lv_at hl 7 rfl) ?_
            refine lv_iadd hx hb dX12_feed_89 ?_
            refine lv_iload hx hb dX12_feed_90 (lv_at hl 0 rfl) ?_
            refine lv_bipush (v := 24) hx hb dX12_feed_92 (by decide) ?_
            refine lv_bipush (v := 8) hx hb dX12_feed_94 (by decide) ?_
            refine lv_iload hx hb dX12_feed_96 (lv_at hl 7 rfl) ?_
            refine lv_iconst (v := 4) hx hb dX12_feed_98 (by decide) ?_
            refine lv_irem hx hb dX12_feed_99 (by decide) ?_
            refine lv_imul hx hb dX12_feed_100 ?_
            refine lv_isub hx hb dX12_feed_101 ?_
            refine lv_ishr hx hb dX12_feed_102 ?_
            refine lv_sipush (v := 255) hx hb dX12_feed_103 (by decide) ?_
            refine lv_iand hx hb dX12_feed_106 ?_
            obtain ⟨b9, hf⟩ := hf_ite hf
            refine rS_1 hx hb hK hP hD hS b9 dX12_feed_107 (fun H locs hP hD hS => ?_)
            refine lv_iinc (v := (x6 + 1)) (lv' := [(6, .int (x6 + 1)), (7, .int x3), (0, .ref Q.h0), (1, .int x1), (2, .int x2), (3, .int x3), (4, .int x4), (5, .int x5)]) hx hb dX12_feed_108 hl (k := 7) rfl rfl (by decide) rfl (fun ls hl => ?_)
            refine lv_goto (tgt := 24) hx hb dX12_feed_111 (by decide) ?_
            exact ih (RS.setA σ 1 ((((σ.i 2) + x6) : Int32).toNatClampNeg) ((x3 >>> ((24 - (8 * (x6 - x6 / 4 * 4))) &&& 31)) &&& 255)) x1 x2 x3 x4 x5 (x6 + 1) _ _ _ hf hP hD hS (lv_sub hl [2, 3, 4, 5, 6, 7, 0] rfl)
        ·
          replace hf := (if_neg c4).symm.trans hf
          refine lv_iload_n hx hb dX12_feed_48 rfl (lv_at hl 2 rfl) ?_
          refine lv_goto (tgt := 77) hx hb dX12_feed_49 (by decide) ?_
          refine lv_istore (lv' := [(7, .int x2), (0, .ref Q.h0), (1, .int x1), (2, .int x2), (3, .int x3), (4, .int x4), (5, .int x5), (6, .int x6)]) hx hb dX12_feed_77 hl (by decide) rfl (fun ls hl => ?_)
          refine lv_aload_n hx hb dX12_feed_79 rfl (lv_at hl 1 rfl) ?_
          refine rG_1 hx hb hts i_X12_feed_X12 hown hK hP (hts (.fieldLink RX12 7 "StatementRules2Model" "tape" "[I") k_X12_feed_fieldLink_RX12_7_SRModel_tape_I) dX12_feed_80 ?_
          refine lv_aload_n hx hb dX12_feed_83 rfl (lv_at hl 1 rfl) ?_
          refine rG_2 (v := (σ.i 2)) hx hb hts i_X12_feed_X12 hown hK hP (hts (.fieldLink RX12 276 "StatementRules2Model" "taped" "I") k_X12_feed_fieldLink_RX12_276_SRModel_taped_I) dX12_feed_84 rfl ?_
          refine lv_iload hx hb dX12_feed_87 (lv_at hl 7 rfl) ?_
          refine lv_iadd hx hb dX12_feed_89 ?_
          refine lv_iload hx hb dX12_feed_90 (lv_at hl 0 rfl) ?_
          refine lv_bipush (v := 24) hx hb dX12_feed_92 (by decide) ?_
          refine lv_bipush (v := 8) hx hb dX12_feed_94 (by decide) ?_
          refine lv_iload hx hb dX12_feed_96 (lv_at hl 7 rfl) ?_
          refine lv_iconst (v := 4) hx hb dX12_feed_98 (by decide) ?_
          refine lv_irem hx hb dX12_feed_99 (by decide) ?_
          refine lv_imul hx hb dX12_feed_100 ?_
          refine lv_isub hx hb dX12_feed_101 ?_
          refine lv_ishr hx hb dX12_feed_102 ?_
          refine lv_sipush (v := 255) hx hb dX12_feed_103 (by decide) ?_
          refine lv_iand hx hb dX12_feed_106 ?_
          obtain ⟨b10, hf⟩ := hf_ite hf
          refine rS_1 hx hb hK hP hD hS b10 dX12_feed_107 (fun H locs hP hD hS => ?_)
          refine lv_iinc (v := (x6 + 1)) (lv' := [(6, .int (x6 + 1)), (7, .int x2), (0, .ref Q.h0), (1, .int x1), (2, .int x2), (3, .int x3), (4, .int x4), (5, .int x5)]) hx hb dX12_feed_108 hl (k := 7) rfl rfl (by decide) rfl (fun ls hl => ?_)
          refine lv_goto (tgt := 24) hx hb dX12_feed_111 (by decide) ?_
          exact ih (RS.setA σ 1 ((((σ.i 2) + x6) : Int32).toNatClampNeg) ((x2 >>> ((24 - (8 * (x6 - x6 / 4 * 4))) &&& 31)) &&& 255)) x1 x2 x3 x4 x5 (x6 + 1) _ _ _ hf hP hD hS (lv_sub hl [2, 3, 4, 5, 6, 7, 0] rfl)
      ·
        replace hf := (if_neg c3).symm.trans hf
        refine lv_iload_n hx hb dX12_feed_37 rfl (lv_at hl 1 rfl) ?_
        refine lv_goto (tgt := 77) hx hb dX12_feed_38 (by decide) ?_
        refine lv_istore (lv' := [(7, .int x1), (0, .ref Q.h0), (1, .int x1), (2, .int x2), (3, .int x3), (4, .int x4), (5, .int x5), (6, .int x6)]) hx hb dX12_feed_77 hl (by decide) rfl (fun ls hl => ?_)
        refine lv_aload_n hx hb dX12_feed_79 rfl (lv_at hl 1 rfl) ?_
        refine rG_1 hx hb hts i_X12_feed_X12 hown hK hP (hts (.fieldLink RX12 7 "StatementRules2Model" "tape" "[I") k_X12_feed_fieldLink_RX12_7_SRModel_tape_I) dX12_feed_80 ?_
        refine lv_aload_n hx hb dX12_feed_83 rfl (lv_at hl 1 rfl) ?_
        refine rG_2 (v := (σ.i 2)) hx hb hts i_X12_feed_X12 hown hK hP (hts (.fieldLink RX12 276 "StatementRules2Model" "taped" "I") k_X12_feed_fieldLink_RX12_276_SRModel_taped_I) dX12_feed_84 rfl ?_
        refine lv_iload hx hb dX12_feed_87 (lv_at hl 7 rfl) ?_
        refine lv_iadd hx hb dX12_feed_89 ?_
        refine lv_iload hx hb dX12_feed_90 (lv_at hl 0 rfl) ?_
        refine lv_bipush (v := 24) hx hb dX12_feed_92 (by decide) ?_
        refine lv_bipush (v := 8) hx hb dX12_feed_94 (by decide) ?_
        refine lv_iload hx hb dX12_feed_96 (lv_at hl 7 rfl) ?_
        refine lv_iconst (v := 4) hx hb dX12_feed_98 (by decide) ?_
        refine lv_irem hx hb dX12_feed_99 (by decide) ?_
        refine lv_imul hx hb dX12_feed_100 ?_
        refine lv_isub hx hb dX12_feed_101 ?_
        refine lv_ishr hx hb dX12_feed_102 ?_
        refine lv_sipush (v := 255) hx hb dX12_feed_103 (by decide) ?_
        refine lv_iand hx hb dX12_feed_106 ?_
        obtain ⟨b11, hf⟩ := hf_ite hf
        refine rS_1 hx hb hK hP hD hS b11 dX12_feed_107 (fun H locs hP hD hS => ?_)
        refine lv_iinc (v := (x6 + 1)) (lv' := [(6, .int (x6 + 1)), (7, .int x1), (0, .ref Q.h0), (1, .int x1), (2, .int x2), (3, .int x3), (4, .int x4), (5, .int x5)]) hx hb dX12_feed_108 hl (k := 7) rfl rfl (by decide) rfl (fun ls hl => ?_)
        refine lv_goto (tgt := 24) hx hb dX12_feed_111 (by decide) ?_
        exact ih (RS.setA σ 1 ((((σ.i 2) + x6) : Int32).toNatClampNeg) ((x1 >>> ((24 - (8 * (x6 - x6 / 4 * 4))) &&& 31)) &&& 255)) x1 x2 x3 x4 x5 (x6 + 1) _ _ _ hf hP hD hS (lv_sub hl [2, 3, 4, 5, 6, 7, 0] rfl)
set_option maxHeartbeats 4000000 in
set_option maxRecDepth 100000 in
theorem c_X12_feed (l : Launch) (dC : Nat → ClassId) (dI : Nat → Nat → Nat) (sz : Nat) (Q : RQ) (N : Nat) (σ : RS) (x1 : Int32) (x2 : Int32) (x3 : Int32) (x4 : Int32) (x5 : Int32) (R : Int32 × RS) (hf : f_X12_feed N σ x1 x2 x3 x4 x5 = some R) : Met l yX12_feed wzX12_feed ({ frames := 1, cells := 0, slots := 0, locals := 60 }) (va_Pc [.ref Q.h0, .int x1, .int x2, .int x3, .int x4, .int x5] (zPre dC dI sz (rW Q σ) (rT Q))) (va_Qi (fun (r : Int32) (_ : Unit) => r = R.1) (fun (_ : Unit) (t : State) => zPost dC dI (va_A (rW Q σ) sz) (rW Q R.2) (rT Q) t) (va_A (rW Q σ) sz)) 0 0 (va_A (rW Q σ) sz) := by
  refine Met.ofW (cc := cX12_feed) (maxL := 8) (ret := (some .int)) (by decide) rfl ?_
  intro p e s m args below meth c s₁ B hml hv
  obtain ⟨rfl, hsz, hZ, hP, hK, hD0⟩ := hv
  have hx := B.exec
  have hb := B.bytes
  have hr := B.returns
  have hts := atoms_spec (ws := wzX12_feed) B.pre
  have hown : s.vm.findClass RX12 = some m.cls := findClass_of_methodNamed B.named
  have hlocks := B.notSynchronized
  subst hsz
  have hD := hD0.self (sz := s.heap.size)
  generalize hAe : va_A (rW Q σ) s.heap.size = A at hD ⊢
  have hA : ∀ q : Nat, s.heap.size ≤ q → A q := fun q h => by rw [← hAe]; exact Or.inr h
  have hS : va_S A s.heap s.heap [] := va_S.rf
  have hl := lv_entry ([.ref Q.h0, .int x1, .int x2, .int x3, .int x4, .int x5]) (n := 8) (Nat.le_of_ble_eq_true rfl)
  rw [lg_entry_eq]
  generalize (lg_sl ([.ref Q.h0, .int x1, .int x2, .int x3, .int x4, .int x5]) ++ List.replicate (8 - (lg_sl ([.ref Q.h0, .int x1, .int x2, .int x3, .int x4, .int x5])).length) Slot.unset).toArray = ls at hl ⊢
  have hl : lv_has ls 8 [(0, .ref Q.h0), (1, .int x1), (2, .int x2), (3, .int x3), (4, .int x4), (5, .int x5)] := hl
  unfold f_X12_feed at hf
  refine lv_aload_n hx hb dX12_feed_0 rfl (lv_at hl 0 rfl) ?_
  refine lv_iconst (v := 0) hx hb dX12_feed_1 (by decide) ?_
  refine rP_0 hx hb hts i_X12_feed_X12 hown hK hP hD hS (hts (.fieldLink RX12 273 "StatementRules2Model" "thrown" "I") k_X12_feed_fieldLink_RX12_273_SRModel_thrown_I) dX12_feed_2 (fun H locs hP hD hS => ?_)
  refine lv_aload_n hx hb dX12_feed_5 rfl (lv_at hl 0 rfl) ?_
  refine rG_2 (v := (σ.i 2)) hx hb hts i_X12_feed_X12 hown hK hP (hts (.fieldLink RX12 276 "StatementRules2Model" "taped" "I") k_X12_feed_fieldLink_RX12_276_SRModel_taped_I) dX12_feed_6 rfl ?_
  refine lv_bipush (v := 20) hx hb dX12_feed_9 (by decide) ?_
  refine lv_iadd hx hb dX12_feed_11 ?_
  refine lv_sipush (v := 900) hx hb dX12_feed_12 (by decide) ?_
  refine lv_icmp_le (tgt := 21) hx hb dX12_feed_15 (by decide) (fun c1 => ?_) (fun c1 => ?_)
  ·
    replace hf := (if_pos c1).symm.trans hf
    refine lv_iconst (v := 0) hx hb dX12_feed_21 (by decide) ?_
    refine lv_istore (lv' := [(6, .int 0), (0, .ref Q.h0), (1, .int x1), (2, .int x2), (3, .int x3), (4, .int x4), (5, .int x5)]) hx hb dX12_feed_22 hl (by decide) rfl (fun ls hl => ?_)
    exact j_X12_feed_24 l dC dI Q N R hx hb hr hml hown hts hlocks hZ hA hK N (RS.setI σ 0 0) x1 x2 x3 x4 x5 0 _ _ _ hf hP hD hS (lv_sub hl [1, 2, 3, 4, 5, 6, 0] rfl)
  ·
    replace hf := (if_neg c1).symm.trans hf
    refine lv_bipush (v := (-2)) hx hb dX12_feed_18 (by decide) ?_
    obtain rfl := Option.some.inj hf
    exact W.iret (v := (-2)) hx hb hr (fun t ht hW => ⟨⟨(-2), (), rfl, rfl, by rw [ht]; exact hP, va_K.moved hW.alike hK, hD⟩, hS.F ht⟩) hS.2.2 dX12_feed_20
theorem k_X12_cut_fieldLink_RX12_273_SRModel_thrown_I : Cond.fieldLink RX12 273 "StatementRules2Model" "thrown" "I" ∈ wzX12_cut := List.mem_cons_of_mem _ (List.mem_append_left _ (List.mem_of_getElem? (i := 0) rfl))
theorem i_X12_cut_X12 : ∀ w ∈ wsX120, w ∈ wzX12_cut := fun _ h => List.mem_cons_of_mem _ (List.mem_append_right _ (List.mem_append_left _ (h)))
theorem k_X12_cut_fieldLink_RX12_276_SRModel_taped_I : Cond.fieldLink RX12 276 "StatementRules2Model" "taped" "I" ∈ wzX12_cut := List.mem_cons_of_mem _ (List.mem_append_left _ (List.mem_of_getElem? (i := 1) rfl))
set_option maxHeartbeats 4000000 in
set_option maxRecDepth 100000 in
theorem c_X12_cut (l : Launch) (dC : Nat → ClassId) (dI : Nat → Nat → Nat) (sz : Nat) (Q : RQ) (N : Nat) (σ : RS) (x1 : Int32) (R : Int32 × RS) (hf : f_X12_cut N σ x1 = some R) : Met l yX12_cut wzX12_cut ({ frames := 2, cells := 0, slots := 0, locals := 120 }) (va_Pc [.ref Q.h0, .int x1] (zPre dC dI sz (rW Q σ) (rT Q))) (va_Qi (fun (r : Int32) (_ : Unit) => r = R.1) (fun (_ : Unit) (t : State) => zPost dC dI (va_A (rW Q σ) sz) (rW Q R.2) (rT Q) t) (va_A (rW Q σ) sz)) 0 0 (va_A (rW Q σ) sz) := by
  refine Met.ofW (cc := cX12_cut) (maxL := 3) (ret := (some .int)) (by decide) rfl ?_
  intro p e s m args below meth c s₁ B hml hv
  obtain ⟨rfl, hsz, hZ, hP, hK, hD0⟩ := hv
  have hx := B.exec
  have hb := B.bytes
  have hr := B.returns
  have hts := atoms_spec (ws := wzX12_cut) B.pre
  have hown : s.vm.findClass RX12 = some m.cls := findClass_of_methodNamed B.named
  have hlocks := B.notSynchronized
  subst hsz
  have hD := hD0.self (sz := s.heap.size)
  generalize hAe : va_A (rW Q σ) s.heap.size = A at hD ⊢
  have hA : ∀ q : Nat, s.heap.size ≤ q → A q := fun q h => by rw [← hAe]; exact Or.inr h
  have hS : va_S A s.heap s.heap [] := va_S.rf
  have hl := lv_entry ([.ref Q.h0, .int x1]) (n := 3) (Nat.le_of_ble_eq_true rfl)
  rw [lg_entry_eq]
  generalize (lg_sl ([.ref Q.h0, .int x1]) ++ List.replicate (3 - (lg_sl ([.ref Q.h0, .int x1])).length) Slot.unset).toArray = ls at hl ⊢
  have hl : lv_has ls 3 [(0, .ref Q.h0), (1, .int x1)] := hl
  unfold f_X12_cut at hf
  refine lv_aload_n hx hb dX12_cut_0 rfl (lv_at hl 0 rfl) ?_
  refine lv_iconst (v := 0) hx hb dX12_cut_1 (by decide) ?_
  refine rP_0 hx hb hts i_X12_cut_X12 hown hK hP hD hS (hts (.fieldLink RX12 273 "StatementRules2Model" "thrown" "I") k_X12_cut_fieldLink_RX12_273_SRModel_thrown_I) dX12_cut_2 (fun H locs hP hD hS => ?_)
  refine lv_iload_n hx hb dX12_cut_5 rfl (lv_at hl 1 rfl) ?_
  refine lv_iconst (v := 0) hx hb dX12_cut_6 (by decide) ?_
  refine lv_aload_n hx hb dX12_cut_7 rfl (lv_at hl 0 rfl) ?_
  refine rG_2 (v := (σ.i 2)) hx hb hts i_X12_cut_X12 hown hK hP (hts (.fieldLink RX12 276 "StatementRules2Model" "taped" "I") k_X12_cut_fieldLink_RX12_276_SRModel_taped_I) dX12_cut_8 rfl ?_
  obtain ⟨p1, hcp1, hf⟩ := hf_bind hf
  have hFc := r_free hD hS hA
  refine va_calli (va_runS (As := [.int x1, .int 0, .int (σ.i 2)]) (rest := []) ⟨hx, hb, hml, hown, hts⟩ (c_X12_in l dC dI _ Q N (RS.setI σ 0 0) x1 0 (σ.i 2) p1 hcp1) (va_cwS 3 hts hX12_cut_X12_in_s279 rfl rfl rfl (by decide +kernel) ⟨Nat.le_of_ble_eq_true rfl, Nat.le_of_ble_eq_true rfl⟩) ⟨zPre.blind, zPre.go hZ hP hK hD⟩ rfl rfl hl.1 rfl (lv_room (Nat.le_of_ble_eq_true rfl)) dX12_cut_11 ⟨Nat.le_of_ble_eq_true rfl, Nat.le_of_ble_eq_true rfl⟩) hS (fun q _ h => hFc q h) hFc (fun r2 u9 t9 H1 locs ht hvm hw hB hz1 hk1 hS => ?_)
  obtain ⟨hP, hK1, hD1⟩ := hB
  rw [ht] at hP
  have hD := hD1.weaken (fun _ _ _ h => hFc _ h)
  generalize H1 = H at hP hS ⊢
  obtain rfl : r2 = p1.1 := hw
  refine lv_if_ne (tgt := 19) hx hb dX12_cut_14 (by decide) (fun c3 => ?_) (fun c3 => ?_)
  ·
    replace hf := (if_neg c3).symm.trans hf
    refine lv_aload_n hx hb dX12_cut_19 rfl (lv_at hl 0 rfl) ?_
    refine rG_2 (v := (p1.2.i 2)) hx hb hts i_X12_cut_X12 hown hK hP (hts (.fieldLink RX12 276 "StatementRules2Model" "taped" "I") k_X12_cut_fieldLink_RX12_276_SRModel_taped_I) dX12_cut_20 rfl ?_
    refine lv_iload_n hx hb dX12_cut_23 rfl (lv_at hl 1 rfl) ?_
    refine lv_isub hx hb dX12_cut_24 ?_
    refine lv_istore_n (lv' := [(2, .int ((p1.2.i 2) - x1)), (0, .ref Q.h0), (1, .int x1)]) hx hb dX12_cut_25 rfl hl (by decide) rfl (fun ls hl => ?_)
    refine lv_aload_n hx hb dX12_cut_26 rfl (lv_at hl 1 rfl) ?_
    refine lv_iload_n hx hb dX12_cut_27 rfl (lv_at hl 2 rfl) ?_
    refine rP_2 hx hb hts i_X12_cut_X12 hown hK hP hD hS (hts (.fieldLink RX12 276 "StatementRules2Model" "taped" "I") k_X12_cut_fieldLink_RX12_276_SRModel_taped_I) dX12_cut_28 (fun H locs hP hD hS => ?_)
    refine lv_iload_n hx hb dX12_cut_31 rfl (lv_at hl 0 rfl) ?_
    obtain rfl := Option.some.inj hf
    exact W.iret (v := ((p1.2.i 2) - x1)) hx hb hr (fun t ht hW => ⟨⟨((p1.2.i 2) - x1), (), rfl, rfl, by rw [ht]; exact hP, va_K.moved hW.alike hK, hD⟩, hS.F ht⟩) hS.2.2 dX12_cut_32
  ·
    replace hf := (if_pos c3).symm.trans hf
    refine lv_iconst (v := (-1)) hx hb dX12_cut_17 (by decide) ?_
    obtain rfl := Option.some.inj hf
    exact W.iret (v := (-1)) hx hb hr (fun t ht hW => ⟨⟨(-1), (), rfl, rfl, by rw [ht]; exact hP, va_K.moved hW.alike hK, hD⟩, hS.F ht⟩) hS.2.2 dX12_cut_18
theorem k_X12_kind_fieldLink_RX12_273_SRModel_thrown_I : Cond.fieldLink RX12 273 "StatementRules2Model" "thrown" "I" ∈ wzX12_kind := List.mem_cons_of_mem _ (List.mem_append_left _ (List.mem_of_getElem? (i := 0) rfl))
theorem i_X12_kind_X12 : ∀ w ∈ wsX120, w ∈ wzX12_kind := fun _ h => List.mem_cons_of_mem _ (List.mem_append_right _ (List.mem_append_left _ (h)))
theorem k_X12_kind_fieldLink_RX12_13_SRModel_kinds_I : Cond.fieldLink RX12 13 "StatementRules2Model" "kinds" "I" ∈ wzX12_kind := List.mem_cons_of_mem _ (List.mem_append_left _ (List.mem_of_getElem? (i := 1) rfl))
theorem k_X12_kind_fieldLink_RX12_17_SRModel_above_I : Cond.fieldLink RX12 17 "StatementRules2Model" "above" "[I" ∈ wzX12_kind := List.mem_cons_of_mem _ (List.mem_append_left _ (List.mem_of_getElem? (i := 2) rfl))
set_option maxHeartbeats 4000000 in
set_option maxRecDepth 100000 in
theorem c_X12_kind (l : Launch) (dC : Nat → ClassId) (dI : Nat → Nat → Nat) (sz : Nat) (Q : RQ) (N : Nat) (σ : RS) (x1 : Int32) (R : Int32 × RS) (hf : f_X12_kind N σ x1 = some R) : Met l yX12_kind wzX12_kind ({ frames := 2, cells := 0, slots := 0, locals := 120 }) (va_Pc [.ref Q.h0, .int x1] (zPre dC dI sz (rW Q σ) (rT Q))) (va_Qi (fun (r : Int32) (_ : Unit) => r = R.1) (fun (_ : Unit) (t : State) => zPost dC dI (va_A (rW Q σ) sz) (rW Q R.2) (rT Q) t) (va_A (rW Q σ) sz)) 0 0 (va_A (rW Q σ) sz) := by
  refine Met.ofW (cc := cX12_kind) (maxL := 2) (ret := (some .int)) (by decide) rfl ?_
  intro p e s m args below meth c s₁ B hml hv
  obtain ⟨rfl, hsz, hZ, hP, hK, hD0⟩ := hv
  have hx := B.exec
  have hb := B.bytes
  have hr := B.returns
  have hts := atoms_spec (ws := wzX12_kind) B.pre
  have hown : s.vm.findClass RX12 = some m.cls := findClass_of_methodNamed B.named
  have hlocks := B.notSynchronized
  subst hsz
  have hD := hD0.self (sz := s.heap.size)
  generalize hAe : va_A (rW Q σ) s.heap.size = A at hD ⊢
  have hA : ∀ q : Nat, s.heap.size ≤ q → A q := fun q h => by rw [← hAe]; exact Or.inr h
  have hS : va_S A s.heap s.heap [] := va_S.rf
  have hl := lv_entry ([.ref Q.h0, .int x1]) (n := 2) (Nat.le_of_ble_eq_true rfl)
  rw [lg_entry_eq]
  generalize (lg_sl ([.ref Q.h0, .int x1]) ++ List.replicate (2 - (lg_sl ([.ref Q.h0, .int x1])).length) Slot.unset).toArray = ls at hl ⊢
  have hl : lv_has ls 2 [(0, .ref Q.h0), (1, .int x1)] := hl
  unfold f_X12_kind at hf
  refine lv_aload_n hx hb dX12_kind_0 rfl (lv_at hl 0 rfl) ?_
  refine lv_iconst (v := 0) hx hb dX12_kind_1 (by decide) ?_
  refine rP_0 hx hb hts i_X12_kind_X12 hown hK hP hD hS (hts (.fieldLink RX12 273 "StatementRules2Model" "thrown" "I") k_X12_kind_fieldLink_RX12_273_SRModel_thrown_I) dX12_kind_2 (fun H locs hP hD hS => ?_)
  refine lv_iload_n hx hb dX12_kind_5 rfl (lv_at hl 1 rfl) ?_
  refine lv_iconst (v := 0) hx hb dX12_kind_6 (by decide) ?_
  refine lv_aload_n hx hb dX12_kind_7 rfl (lv_at hl 0 rfl) ?_
  refine rG_3 (v := (σ.i 3)) hx hb hts i_X12_kind_X12 hown hK hP (hts (.fieldLink RX12 13 "StatementRules2Model" "kinds" "I") k_X12_kind_fieldLink_RX12_13_SRModel_kinds_I) dX12_kind_8 rfl ?_
  refine lv_iconst (v := 1) hx hb dX12_kind_11 (by decide) ?_
  refine lv_isub hx hb dX12_kind_12 ?_
  obtain ⟨p1, hcp1, hf⟩ := hf_bind hf
  have hFc := r_free hD hS hA
  refine va_calli (va_runS (As := [.int x1, .int 0, .int ((σ.i 3) - 1)]) (rest := []) ⟨hx, hb, hml, hown, hts⟩ (c_X12_in l dC dI _ Q N (RS.setI σ 0 0) x1 0 ((σ.i 3) - 1) p1 hcp1) (va_cwS 3 hts hX12_kind_X12_in_s279 rfl rfl rfl (by decide +kernel) ⟨Nat.le_of_ble_eq_true rfl, Nat.le_of_ble_eq_true rfl⟩) ⟨zPre.blind, zPre.go hZ hP hK hD⟩ rfl rfl hl.1 rfl (lv_room (Nat.le_of_ble_eq_true rfl)) dX12_kind_13 ⟨Nat.le_of_ble_eq_true rfl, Nat.le_of_ble_eq_true rfl⟩) hS (fun q _ h => hFc q h) hFc (fun r2 u9 t9 H1 locs ht hvm hw hB hz1 hk1 hS => ?_)
  obtain ⟨hP, hK1, hD1⟩ := hB
  rw [ht] at hP
  have hD := hD1.weaken (fun _ _ _ h => hFc _ h)
  generalize H1 = H at hP hS ⊢
  obtain rfl : r2 = p1.1 := hw
  refine lv_if_ne (tgt := 21) hx hb dX12_kind_16 (by decide) (fun c3 => ?_) (fun c3 => ?_)
  ·
    replace hf := (if_neg c3).symm.trans hf
    refine lv_aload_n hx hb dX12_kind_21 rfl (lv_at hl 0 rfl) ?_
    refine rG_3 (v := (p1.2.i 3)) hx hb hts i_X12_kind_X12 hown hK hP (hts (.fieldLink RX12 13 "StatementRules2Model" "kinds" "I") k_X12_kind_fieldLink_RX12_13_SRModel_kinds_I) dX12_kind_22 rfl ?_
    refine lv_bipush (v := 12) hx hb dX12_kind_25 (by decide) ?_
    refine lv_icmp_ne (tgt := 33) hx hb dX12_kind_27 (by decide) (fun c4 => ?_) (fun c4 => ?_)
    ·
      replace hf := (if_neg c4).symm.trans hf
      refine lv_aload_n hx hb dX12_kind_33 rfl (lv_at hl 0 rfl) ?_
      refine rG_4 hx hb hts i_X12_kind_X12 hown hK hP (hts (.fieldLink RX12 17 "StatementRules2Model" "above" "[I") k_X12_kind_fieldLink_RX12_17_SRModel_above_I) dX12_kind_34 ?_
      refine lv_aload_n hx hb dX12_kind_37 rfl (lv_at hl 0 rfl) ?_
      refine rG_3 (v := (p1.2.i 3)) hx hb hts i_X12_kind_X12 hown hK hP (hts (.fieldLink RX12 13 "StatementRules2Model" "kinds" "I") k_X12_kind_fieldLink_RX12_13_SRModel_kinds_I) dX12_kind_38 rfl ?_
      refine lv_iload_n hx hb dX12_kind_41 rfl (lv_at hl 1 rfl) ?_
      obtain ⟨b5, hf⟩ := hf_ite hf
      refine rS_4 hx hb hK hP hD hS b5 dX12_kind_42 (fun H locs hP hD hS => ?_)
      refine lv_aload_n hx hb dX12_kind_43 rfl (lv_at hl 0 rfl) ?_
      refine lv_dup hx hb dX12_kind_44 rfl ?_
      refine rG_3 (v := (p1.2.i 3)) hx hb hts i_X12_kind_X12 hown hK hP (hts (.fieldLink RX12 13 "StatementRules2Model" "kinds" "I") k_X12_kind_fieldLink_RX12_13_SRModel_kinds_I) dX12_kind_45 rfl ?_
      refine lv_iconst (v := 1) hx hb dX12_kind_48 (by decide) ?_
      refine lv_iadd hx hb dX12_kind_49 ?_
      refine rP_3 hx hb hts i_X12_kind_X12 hown hK hP hD hS (hts (.fieldLink RX12 13 "StatementRules2Model" "kinds" "I") k_X12_kind_fieldLink_RX12_13_SRModel_kinds_I) dX12_kind_50 (fun H locs hP hD hS => ?_)
      refine lv_aload_n hx hb dX12_kind_53 rfl (lv_at hl 0 rfl) ?_
      refine rG_3 (v := ((p1.2.i 3) + 1)) hx hb hts i_X12_kind_X12 hown hK hP (hts (.fieldLink RX12 13 "StatementRules2Model" "kinds" "I") k_X12_kind_fieldLink_RX12_13_SRModel_kinds_I) dX12_kind_54 rfl ?_
      refine lv_iconst (v := 1) hx hb dX12_kind_57 (by decide) ?_
      refine lv_isub hx hb dX12_kind_58 ?_
      obtain rfl := Option.some.inj hf
      exact W.iret (v := (((p1.2.i 3) + 1) - 1)) hx hb hr (fun t ht hW => ⟨⟨(((p1.2.i 3) + 1) - 1), (), rfl, rfl, by rw [ht]; exact hP, va_K.moved hW.alike hK, hD⟩, hS.F ht⟩) hS.2.2 dX12_kind_59
    ·
      replace hf := (if_pos c4).symm.trans hf
      refine lv_bipush (v := (-2)) hx hb dX12_kind_30 (by decide) ?_
      obtain rfl := Option.some.inj hf
      exact W.iret (v := (-2)) hx hb hr (fun t ht hW => ⟨⟨(-2), (), rfl, rfl, by rw [ht]; exact hP, va_K.moved hW.alike hK, hD⟩, hS.F ht⟩) hS.2.2 dX12_kind_32
  ·
    replace hf := (if_pos c3).symm.trans hf
    refine lv_iconst (v := (-1)) hx hb dX12_kind_19 (by decide) ?_
    obtain rfl := Option.some.inj hf
    exact W.iret (v := (-1)) hx hb hr (fun t ht hW => ⟨⟨(-1), (), rfl, rfl, by rw [ht]; exact hP, va_K.moved hW.alike hK, hD⟩, hS.F ht⟩) hS.2.2 dX12_kind_20
theorem k_X12_isUnder_fieldLink_RX12_17_SRModel_above_I : Cond.fieldLink RX12 17 "StatementRules2Model" "above" "[I" ∈ wzX12_isUnder := List.mem_cons_of_mem _ (List.mem_append_left _ (List.mem_of_getElem? (i := 0) rfl))
theorem i_X12_isUnder_X12 : ∀ w ∈ wsX120, w ∈ wzX12_isUnder := fun _ h => List.mem_cons_of_mem _ (List.mem_append_right _ (List.mem_append_left _ (h)))
set_option maxHeartbeats 4000000 in
set_option maxRecDepth 100000 in
theorem j_X12_isUnder_21 {p : Program} {e : Env} {s : State} {m : MethodId} {args : Array Value} {below : List Frame} {meth : Method} {c : Code} {A : Nat → Prop} (l : Launch) (dC : Nat → ClassId) (dI : Nat → Nat → Nat) (Q : RQ) (N : Nat) (R : Int32 × RS) (hx : p.tables.exec = Jvm.exec) (hb : c.code = cX12_isUnder) (hr : meth.sig.returnType = (some .boolean)) (hml : c.maxLocals = 4) (hown : s.vm.findClass RX12 = some m.cls) (hts : ∀ w ∈ wzX12_isUnder, w.before args s = true) (hlocks : meth.locks = false) (hZ : zAMB s) (hA : ∀ q : Nat, s.heap.size ≤ q → A q) (hK : va_K (dC, dI) vwCl (rT Q) s) : ∀ (σ : RS) (x2 : Int32) (x3 : Int32) (H : Heap) (locs : List Loc) (ls : Array Slot), f_X12_isUnder_21 N σ x2 x3 = some R → va_P (dC, dI) vwCl (rW Q σ) H → va_D A (rW Q σ) → va_S A s.heap H locs → lv_has ls 4 [(2, .int x2), (3, .int x3)] → W p l e ({ frames := 1, cells := 0, slots := 0, locals := 60 }) s m args below meth c H locs 0 0 (MQ below (va_Qi (fun (r : Int32) (_ : Unit) => r = R.1) (fun (_ : Unit) (t : State) => zPost dC dI A (rW Q R.2) (rT Q) t) A) args s 0 0 A) (F0 m 21 ls []) := by
  intro σ x2 x3 H locs ls hf hP hD hS hl
  unfold f_X12_isUnder_21 at hf
  refine lv_iload_n hx hb dX12_isUnder_21 rfl (lv_at hl 1 rfl) ?_
  refine lv_iload_n hx hb dX12_isUnder_22 rfl (lv_at hl 0 rfl) ?_
  refine lv_icmp_ne (tgt := 30) hx hb dX12_isUnder_23 (by decide) (fun c2 => ?_) (fun c2 => ?_)
  ·
    replace hf := (if_neg c2).symm.trans hf
    refine lv_iconst (v := 0) hx hb dX12_isUnder_30 (by decide) ?_
    obtain rfl := Option.some.inj hf
    exact W.zret (v := 0) hx hb hr (rfl) (fun t ht hW => ⟨⟨0, (), rfl, rfl, by rw [ht]; exact hP, va_K.moved hW.alike hK, hD⟩, hS.F ht⟩) hS.2.2 dX12_isUnder_31
  ·
    replace hf := (if_pos c2).symm.trans hf
    refine lv_iconst (v := 1) hx hb dX12_isUnder_26 (by decide) ?_
    refine lv_goto (tgt := 31) hx hb dX12_isUnder_27 (by decide) ?_
    obtain rfl := Option.some.inj hf
    exact W.zret (v := 1) hx hb hr (rfl) (fun t ht hW => ⟨⟨1, (), rfl, rfl, by rw [ht]; exact hP, va_K.moved hW.alike hK, hD⟩, hS.F ht⟩) hS.2.2 dX12_isUnder_31
set_option maxHeartbeats 4000000 in
set_option maxRecDepth 100000 in
theorem j_X12_isUnder_2 {p : Program} {e : Env} {s : State} {m : MethodId} {args : Array Value} {below : List Frame} {meth : Method} {c : Code} {A : Nat → Prop} (l : Launch) (dC : Nat → ClassId) (dI : Nat → Nat → Nat) (Q : RQ) (N : Nat) (R : Int32 × RS) (hx : p.tables.exec = Jvm.exec) (hb : c.code = cX12_isUnder) (hr : meth.sig.returnType = (some .boolean)) (hml : c.maxLocals = 4) (hown : s.vm.findClass RX12 = some m.cls) (hts : ∀ w ∈ wzX12_isUnder, w.before args s = true) (hlocks : meth.locks = false) (hZ : zAMB s) (hA : ∀ q : Nat, s.heap.size ≤ q → A q) (hK : va_K (dC, dI) vwCl (rT Q) s) : ∀ (n9 : Nat), ∀ (σ : RS) (x2 : Int32) (x3 : Int32) (H : Heap) (locs : List Loc) (ls : Array Slot), f_X12_isUnder_2 N n9 σ x2 x3 = some R → va_P (dC, dI) vwCl (rW Q σ) H → va_D A (rW Q σ) → va_S A s.heap H locs → lv_has ls 4 [(0, .ref Q.h0), (2, .int x2), (3, .int x3)] → W p l e ({ frames := 1, cells := 0, slots := 0, locals := 60 }) s m args below meth c H locs 0 0 (MQ below (va_Qi (fun (r : Int32) (_ : Unit) => r = R.1) (fun (_ : Unit) (t : State) => zPost dC dI A (rW Q R.2) (rT Q) t) A) args s 0 0 A) (F0 m 2 ls []) := by
  intro n9
  induction n9 with
  | zero => intro σ x2 x3 H locs ls hf; exact absurd hf (by intro h9; cases h9)
  | succ n9 ih =>
    intro σ x2 x3 H locs ls hf hP hD hS hl
    replace hf : b_X12_isUnder_2 N (f_X12_isUnder_2 N n9) σ x2 x3 = some R := hf
    unfold b_X12_isUnder_2 at hf
    refine lv_iload_n hx hb dX12_isUnder_2 rfl (lv_at hl 2 rfl) ?_
    refine lv_iload_n hx hb dX12_isUnder_3 rfl (lv_at hl 1 rfl) ?_
    refine lv_icmp_eq (tgt := 21) hx hb dX12_isUnder_4 (by decide) (fun c1 => ?_) (fun c1 => ?_)
    ·
      replace hf := (if_pos c1).symm.trans hf
      exact j_X12_isUnder_21 l dC dI Q N R hx hb hr hml hown hts hlocks hZ hA hK σ x2 x3 _ _ _ hf hP hD hS (lv_sub hl [1, 2] rfl)
    ·
      replace hf := (if_neg c1).symm.trans hf
      refine lv_iload_n hx hb dX12_isUnder_7 rfl (lv_at hl 2 rfl) ?_
      refine lv_if_le (tgt := 21) hx hb dX12_isUnder_8 (by decide) (fun c3 => ?_) (fun c3 => ?_)
      ·
        replace hf := (if_pos c3).symm.trans hf
        exact j_X12_isUnder_21 l dC dI Q N R hx hb hr hml hown hts hlocks hZ hA hK σ x2 x3 _ _ _ hf hP hD hS (lv_sub hl [1, 2] rfl)
      ·
        replace hf := (if_neg c3).symm.trans hf
        refine lv_aload_n hx hb dX12_isUnder_11 rfl (lv_at hl 0 rfl) ?_
        refine rG_4 hx hb hts i_X12_isUnder_X12 hown hK hP (hts (.fieldLink RX12 17 "StatementRules2Model" "above" "[I") k_X12_isUnder_fieldLink_RX12_17_SRModel_above_I) dX12_isUnder_12 ?_
        refine lv_iload_n hx hb dX12_isUnder_15 rfl (lv_at hl 2 rfl) ?_
        obtain ⟨b4, hf⟩ := hf_ite hf
        refine rL_4 (v := (σ.a 4 ((x3 : Int32).toNatClampNeg))) hx hb hK hP b4 dX12_isUnder_16 rfl ?_
        refine lv_istore_n (lv' := [(3, .int (σ.a 4 ((x3 : Int32).toNatClampNeg))), (0, .ref Q.h0), (2, .int x2)]) hx hb dX12_isUnder_17 rfl hl (by decide) rfl (fun ls hl => ?_)
        refine lv_goto (tgt := 2) hx hb dX12_isUnder_18 (by decide) ?_
        exact ih σ x2 (σ.a 4 ((x3 : Int32).toNatClampNeg)) _ _ _ hf hP hD hS (lv_sub hl [1, 2, 0] rfl)
set_option maxHeartbeats 4000000 in
set_option maxRecDepth 100000 in
theorem c_X12_isUnder (l : Launch) (dC : Nat → ClassId) (dI : Nat → Nat → Nat) (sz : Nat) (Q : RQ) (N : Nat) (σ : RS) (x1 : Int32) (x2 : Int32) (R : Int32 × RS) (hf : f_X12_isUnder N σ x1 x2 = some R) : Met l yX12_isUnder wzX12_isUnder ({ frames := 1, cells := 0, slots := 0, locals := 60 }) (va_Pc [.ref Q.h0, .int x1, .int x2] (zPre dC dI sz (rW Q σ) (rT Q))) (va_Qi (fun (r : Int32) (_ : Unit) => r = R.1) (fun (_ : Unit) (t : State) => zPost dC dI (va_A (rW Q σ) sz) (rW Q R.2) (rT Q) t) (va_A (rW Q σ) sz)) 0 0 (va_A (rW Q σ) sz) := by
  refine Met.ofW (cc := cX12_isUnder) (maxL := 4) (ret := (some .boolean)) (by decide) rfl ?_
  intro p e s m args below meth c s₁ B hml hv
  obtain ⟨rfl, hsz, hZ, hP, hK, hD0⟩ := hv
  have hx := B.exec
  have hb := B.bytes
  have hr := B.returns
  have hts := atoms_spec (ws := wzX12_isUnder) B.pre
  have hown : s.vm.findClass RX12 = some m.cls := findClass_of_methodNamed B.named
  have hlocks := B.notSynchronized
  subst hsz
  have hD := hD0.self (sz := s.heap.size)
  generalize hAe : va_A (rW Q σ) s.heap.size = A at hD ⊢
  have hA : ∀ q : Nat, s.heap.size ≤ q → A q := fun q h => by rw [← hAe]; exact Or.inr h
  have hS : va_S A s.heap s.heap [] := va_S.rf
  have hl := lv_entry ([.ref Q.h0, .int x1, .int x2]) (n := 4) (Nat.le_of_ble_eq_true rfl)
  rw [lg_entry_eq]
  generalize (lg_sl ([.ref Q.h0, .int x1, .int x2]) ++ List.replicate (4 - (lg_sl ([.ref Q.h0, .int x1, .int x2])).length) Slot.unset).toArray = ls at hl ⊢
  have hl : lv_has ls 4 [(0, .ref Q.h0), (1, .int x1), (2, .int x2)] := hl
  unfold f_X12_isUnder at hf
  refine lv_iload_n hx hb dX12_isUnder_0 rfl (lv_at hl 1 rfl) ?_
  refine lv_istore_n (lv' := [(3, .int x1), (0, .ref Q.h0), (1, .int x1), (2, .int x2)]) hx hb dX12_isUnder_1 rfl hl (by decide) rfl (fun ls hl => ?_)
  exact j_X12_isUnder_2 l dC dI Q N R hx hb hr hml hown hts hlocks hZ hA hK N σ x2 x1 _ _ _ hf hP hD hS (lv_sub hl [1, 3, 0] rfl)
theorem k_X12_under_fieldLink_RX12_273_SRModel_thrown_I : Cond.fieldLink RX12 273 "StatementRules2Model" "thrown" "I" ∈ wzX12_under := List.mem_cons_of_mem _ (List.mem_append_left _ (List.mem_of_getElem? (i := 0) rfl))
theorem i_X12_under_X12 : ∀ w ∈ wsX120, w ∈ wzX12_under := fun _ h => List.mem_cons_of_mem _ (List.mem_append_right _ (List.mem_append_left _ (h)))
theorem k_X12_under_fieldLink_RX12_13_SRModel_kinds_I : Cond.fieldLink RX12 13 "StatementRules2Model" "kinds" "I" ∈ wzX12_under := List.mem_cons_of_mem _ (List.mem_append_left _ (List.mem_of_getElem? (i := 1) rfl))
set_option maxHeartbeats 4000000 in
set_option maxRecDepth 100000 in
theorem j_X12_under_33 {p : Program} {e : Env} {s : State} {m : MethodId} {args : Array Value} {below : List Frame} {meth : Method} {c : Code} {A : Nat → Prop} (l : Launch) (dC : Nat → ClassId) (dI : Nat → Nat → Nat) (Q : RQ) (N : Nat) (R : Int32 × RS) (hx : p.tables.exec = Jvm.exec) (hb : c.code = cX12_under) (hr : meth.sig.returnType = (some .int)) (hml : c.maxLocals = 3) (hown : s.vm.findClass RX12 = some m.cls) (hts : ∀ w ∈ wzX12_under, w.before args s = true) (hlocks : meth.locks = false) (hZ : zAMB s) (hA : ∀ q : Nat, s.heap.size ≤ q → A q) (hK : va_K (dC, dI) vwCl (rT Q) s) : ∀ (σ : RS) (H : Heap) (locs : List Loc) (ls : Array Slot), f_X12_under_33 N σ = some R → va_P (dC, dI) vwCl (rW Q σ) H → va_D A (rW Q σ) → va_S A s.heap H locs → lv_has ls 3 [] → W p l e ({ frames := 2, cells := 0, slots := 0, locals := 120 }) s m args below meth c H locs 0 0 (MQ below (va_Qi (fun (r : Int32) (_ : Unit) => r = R.1) (fun (_ : Unit) (t : State) => zPost dC dI A (rW Q R.2) (rT Q) t) A) args s 0 0 A) (F0 m 33 ls []) := by
  intro σ  H locs ls hf hP hD hS hl
  unfold f_X12_under_33 at hf
  refine lv_iconst (v := (-1)) hx hb dX12_under_33 (by decide) ?_
  obtain rfl := Option.some.inj hf
  exact W.iret (v := (-1)) hx hb hr (fun t ht hW => ⟨⟨(-1), (), rfl, rfl, by rw [ht]; exact hP, va_K.moved hW.alike hK, hD⟩, hS.F ht⟩) hS.2.2 dX12_under_34
set_option maxHeartbeats 4000000 in
set_option maxRecDepth 100000 in
theorem c_X12_under (l : Launch) (dC : Nat → ClassId) (dI : Nat → Nat → Nat) (sz : Nat) (Q : RQ) (N : Nat) (σ : RS) (x1 : Int32) (x2 : Int32) (R : Int32 × RS) (hf : f_X12_under N σ x1 x2 = some R) : Met l yX12_under wzX12_under ({ frames := 2, cells := 0, slots := 0, locals := 120 }) (va_Pc [.ref Q.h0, .int x1, .int x2] (zPre dC dI sz (rW Q σ) (rT Q))) (va_Qi (fun (r : Int32) (_ : Unit) => r = R.1) (fun (_ : Unit) (t : State) => zPost dC dI (va_A (rW Q σ) sz) (rW Q R.2) (rT Q) t) (va_A (rW Q σ) sz)) 0 0 (va_A (rW Q σ) sz) := by
  refine Met.ofW (cc := cX12_under) (maxL := 3) (ret := (some .int)) (by decide) rfl ?_
  intro p e s m args below meth c s₁ B hml hv
  obtain ⟨rfl, hsz, hZ, hP, hK, hD0⟩ := hv
  have hx := B.exec
  have hb := B.bytes
  have hr := B.returns
  have hts := atoms_spec (ws := wzX12_under) B.pre
  have hown : s.vm.findClass RX12 = some m.cls := findClass_of_methodNamed B.named
  have hlocks := B.notSynchronized
  subst hsz
  have hD := hD0.self (sz := s.heap.size)
  generalize hAe : va_A (rW Q σ) s.heap.size = A at hD ⊢
  have hA : ∀ q : Nat, s.heap.size ≤ q → A q := fun q h => by rw [← hAe]; exact Or.inr h
  have hS : va_S A s.heap s.heap [] := va_S.rf
  have hl := lv_entry ([.ref Q.h0, .int x1, .int x2]) (n := 3) (Nat.le_of_ble_eq_true rfl)
  rw [lg_entry_eq]
  generalize (lg_sl ([.ref Q.h0, .int x1, .int x2]) ++ List.replicate (3 - (lg_sl ([.ref Q.h0, .int x1, .int x2])).length) Slot.unset).toArray = ls at hl ⊢
  have hl : lv_has ls 3 [(0, .ref Q.h0), (1, .int x1), (2, .int x2)] := hl
  unfold f_X12_under at hf
  refine lv_aload_n hx hb dX12_under_0 rfl (lv_at hl 0 rfl) ?_
  refine lv_iconst (v := 0) hx hb dX12_under_1 (by decide) ?_
  refine rP_0 hx hb hts i_X12_under_X12 hown hK hP hD hS (hts (.fieldLink RX12 273 "StatementRules2Model" "thrown" "I") k_X12_under_fieldLink_RX12_273_SRModel_thrown_I) dX12_under_2 (fun H locs hP hD hS => ?_)
  refine lv_iload_n hx hb dX12_under_5 rfl (lv_at hl 1 rfl) ?_
  refine lv_iconst (v := 0) hx hb dX12_under_6 (by decide) ?_
  refine lv_aload_n hx hb dX12_under_7 rfl (lv_at hl 0 rfl) ?_
  refine rG_3 (v := (σ.i 3)) hx hb hts i_X12_under_X12 hown hK hP (hts (.fieldLink RX12 13 "StatementRules2Model" "kinds" "I") k_X12_under_fieldLink_RX12_13_SRModel_kinds_I) dX12_under_8 rfl ?_
  refine lv_iconst (v := 1) hx hb dX12_under_11 (by decide) ?_
  refine lv_isub hx hb dX12_under_12 ?_
  obtain ⟨p1, hcp1, hf⟩ := hf_bind hf
  have hFc := r_free hD hS hA
  refine va_calli (va_runS (As := [.int x1, .int 0, .int ((σ.i 3) - 1)]) (rest := []) ⟨hx, hb, hml, hown, hts⟩ (c_X12_in l dC dI _ Q N (RS.setI σ 0 0) x1 0 ((σ.i 3) - 1) p1 hcp1) (va_cwS 3 hts hX12_under_X12_in_s279 rfl rfl rfl (by decide +kernel) ⟨Nat.le_of_ble_eq_true rfl, Nat.le_of_ble_eq_true rfl⟩) ⟨zPre.blind, zPre.go hZ hP hK hD⟩ rfl rfl hl.1 rfl (lv_room (Nat.le_of_ble_eq_true rfl)) dX12_under_13 ⟨Nat.le_of_ble_eq_true rfl, Nat.le_of_ble_eq_true rfl⟩) hS (fun q _ h => hFc q h) hFc (fun r2 u9 t9 H1 locs ht hvm hw hB hz1 hk1 hS => ?_)
  obtain ⟨hP, hK1, hD1⟩ := hB
  rw [ht] at hP
  have hD := hD1.weaken (fun _ _ _ h => hFc _ h)
  generalize H1 = H at hP hS ⊢
  obtain rfl : r2 = p1.1 := hw
  refine lv_if_eq (tgt := 33) hx hb dX12_under_16 (by decide) (fun c3 => ?_) (fun c3 => ?_)
  ·
    replace hf := (if_pos c3).symm.trans hf
    exact j_X12_under_33 l dC dI Q N R hx hb hr hml hown hts hlocks hZ hA hK p1.2 _ _ _ hf hP hD hS (lv_sub hl [] rfl)
  ·
    replace hf := (if_neg c3).symm.trans hf
    refine lv_iload_n hx hb dX12_under_19 rfl (lv_at hl 2 rfl) ?_
    refine lv_iconst (v := 0) hx hb dX12_under_20 (by decide) ?_
    refine lv_aload_n hx hb dX12_under_21 rfl (lv_at hl 0 rfl) ?_
    refine rG_3 (v := (p1.2.i 3)) hx hb hts i_X12_under_X12 hown hK hP (hts (.fieldLink RX12 13 "StatementRules2Model" "kinds" "I") k_X12_under_fieldLink_RX12_13_SRModel_kinds_I) dX12_under_22 rfl ?_
    refine lv_iconst (v := 1) hx hb dX12_under_25 (by decide) ?_
    refine lv_isub hx hb dX12_under_26 ?_
    obtain ⟨p4, hcp4, hf⟩ := hf_bind hf
    have hFc := r_free hD hS hA
    refine va_calli (va_runS (As := [.int x2, .int 0, .int ((p1.2.i 3) - 1)]) (rest := []) ⟨hx, hb, hml, hown, hts⟩ (c_X12_in l dC dI _ Q N p1.2 x2 0 ((p1.2.i 3) - 1) p4 hcp4) (va_cwS 3 hts hX12_under_X12_in_s279 rfl rfl rfl (by decide +kernel) ⟨Nat.le_of_ble_eq_true rfl, Nat.le_of_ble_eq_true rfl⟩) ⟨zPre.blind, zPre.go hZ hP hK hD⟩ rfl rfl hl.1 rfl (lv_room (Nat.le_of_ble_eq_true rfl)) dX12_under_27 ⟨Nat.le_of_ble_eq_true rfl, Nat.le_of_ble_eq_true rfl⟩) hS (fun q _ h => hFc q h) hFc (fun r5 u9 t9 H1 locs ht hvm hw hB hz1 hk1 hS => ?_)
    obtain ⟨hP, hK1, hD1⟩ := hB
    rw [ht] at hP
    have hD := hD1.weaken (fun _ _ _ h => hFc _ h)
    generalize H1 = H at hP hS ⊢
    obtain rfl : r5 = p4.1 := hw
    refine lv_if_ne (tgt := 35) hx hb dX12_under_30 (by decide) (fun c6 => ?_) (fun c6 => ?_)
    ·
      replace hf := (if_neg c6).symm.trans hf
      refine lv_aload_n hx hb dX12_under_35 rfl (lv_at hl 0 rfl) ?_
      refine lv_iload_n hx hb dX12_under_36 rfl (lv_at hl 1 rfl) ?_
      refine lv_iload_n hx hb dX12_under_37 rfl (lv_at hl 2 rfl) ?_
      obtain ⟨p7, hcp7, hf⟩ := hf_bind hf
      have hFc := r_free hD hS hA
      refine va_calli (va_runV (As := [.int x1, .int x2]) (rest := []) ⟨hx, hb, hml, hown, hts⟩ (c_X12_isUnder l dC dI _ Q N p4.2 x1 x2 p7 hcp7) (cwV 2 hts hX12_under_X12_isUnder_v283 rfl rfl rfl (by decide +kernel) ⟨Nat.le_of_ble_eq_true rfl, Nat.le_of_ble_eq_true rfl⟩) ⟨zPre.blind, va_recv hK hP (ci := 11) (q0 := 0) rfl rfl, zPre.go hZ hP hK hD⟩ rfl rfl hl.1 rfl (lv_room (Nat.le_of_ble_eq_true rfl)) dX12_under_38 ⟨Nat.le_of_ble_eq_true rfl, Nat.le_of_ble_eq_true rfl⟩) hS (fun q _ h => hFc q h) hFc (fun r8 u9 t9 H1 locs ht hvm hw hB hz1 hk1 hS => ?_)
      obtain ⟨hP, hK1, hD1⟩ := hB
      rw [ht] at hP
      have hD := hD1.weaken (fun _ _ _ h => hFc _ h)
      generalize H1 = H at hP hS ⊢
      obtain rfl : r8 = p7.1 := hw
      refine lv_if_eq (tgt := 48) hx hb dX12_under_41 (by decide) (fun c9 => ?_) (fun c9 => ?_)
      ·
        replace hf := (if_pos c9).symm.trans hf
        refine lv_iconst (v := 0) hx hb dX12_under_48 (by decide) ?_
        obtain rfl := Option.some.inj hf
        exact W.iret (v := 0) hx hb hr (fun t ht hW => ⟨⟨0, (), rfl, rfl, by rw [ht]; exact hP, va_K.moved hW.alike hK, hD⟩, hS.F ht⟩) hS.2.2 dX12_under_49
      ·
        replace hf := (if_neg c9).symm.trans hf
        refine lv_iconst (v := 1) hx hb dX12_under_44 (by decide) ?_
        refine lv_goto (tgt := 49) hx hb dX12_under_45 (by decide) ?_
        obtain rfl := Option.some.inj hf
        exact W.iret (v := 1) hx hb hr (fun t ht hW => ⟨⟨1, (), rfl, rfl, by rw [ht]; exact hP, va_K.moved hW.alike hK, hD⟩, hS.F ht⟩) hS.2.2 dX12_under_49
    ·
      replace hf := (if_pos c6).symm.trans hf
      exact j_X12_under_33 l dC dI Q N R hx hb hr hml hown hts hlocks hZ hA hK p4.2 _ _ _ hf hP hD hS (lv_sub hl [] rfl)
theorem k_X12_resource_fieldLink_RX12_273_SRModel_thrown_I : Cond.fieldLink RX12 273 "StatementRules2Model" "thrown" "I" ∈ wzX12_resource := List.mem_cons_of_mem _ (List.mem_append_left _ (List.mem_of_getElem? (i := 0) rfl))
theorem i_X12_resource_X12 : ∀ w ∈ wsX120, w ∈ wzX12_resource := fun _ h => List.mem_cons_of_mem _ (List.mem_append_right _ (List.mem_append_left _ (h)))
theorem k_X12_resource_fieldLink_RX12_13_SRModel_kinds_I : Cond.fieldLink RX12 13 "StatementRules2Model" "kinds" "I" ∈ wzX12_resource := List.mem_cons_of_mem _ (List.mem_append_left _ (List.mem_of_getElem? (i := 1) rfl))
theorem k_X12_resource_fieldLink_RX12_20_SRModel_isNull_Z : Cond.fieldLink RX12 20 "StatementRules2Model" "isNull" "[Z" ∈ wzX12_resource := List.mem_cons_of_mem _ (List.mem_append_left _ (List.mem_of_getElem? (i := 2) rfl))
theorem k_X12_resource_fieldLink_RX12_24_SRModel_opening_I : Cond.fieldLink RX12 24 "StatementRules2Model" "opening" "[I" ∈ wzX12_resource := List.mem_cons_of_mem _ (List.mem_append_left _ (List.mem_of_getElem? (i := 3) rfl))
theorem k_X12_resource_fieldLink_RX12_27_SRModel_closing_I : Cond.fieldLink RX12 27 "StatementRules2Model" "closing" "[I" ∈ wzX12_resource := List.mem_cons_of_mem _ (List.mem_append_left _ (List.mem_of_getElem? (i := 4) rfl))
set_option maxHeartbeats 4000000 in
set_option maxRecDepth 100000 in
theorem j_X12_resource_53 {p : Program} {e : Env} {s : State} {m : MethodId} {args : Array Value} {below : List Frame} {meth : Method} {c : Code} {A : Nat → Prop} (l : Launch) (dC : Nat → ClassId) (dI : Nat → Nat → Nat) (Q : RQ) (N : Nat) (R : Int32 × RS) (hx : p.tables.exec = Jvm.exec) (hb : c.code = cX12_resource) (hr : meth.sig.returnType = (some .int)) (hml : c.maxLocals = 5) (hown : s.vm.findClass RX12 = some m.cls) (hts : ∀ w ∈ wzX12_resource, w.before args s = true) (hlocks : meth.locks = false) (hZ : zAMB s) (hA : ∀ q : Nat, s.heap.size ≤ q → A q) (hK : va_K (dC, dI) vwCl (rT Q) s) : ∀ (σ : RS) (H : Heap) (locs : List Loc) (ls : Array Slot), f_X12_resource_53 N σ = some R → va_P (dC, dI) vwCl (rW Q σ) H → va_D A (rW Q σ) → va_S A s.heap H locs → lv_has ls 5 [] → W p l e ({ frames := 2, cells := 0, slots := 0, locals := 120 }) s m args below meth c H locs 0 0 (MQ below (va_Qi (fun (r : Int32) (_ : Unit) => r = R.1) (fun (_ : Unit) (t : State) => zPost dC dI A (rW Q R.2) (rT Q) t) A) args s 0 0 A) (F0 m 53 ls []) := by
  intro σ  H locs ls hf hP hD hS hl
  unfold f_X12_resource_53 at hf
  refine lv_iconst (v := (-1)) hx hb dX12_resource_53 (by decide) ?_
  obtain rfl := Option.some.inj hf
  exact W.iret (v := (-1)) hx hb hr (fun t ht hW => ⟨⟨(-1), (), rfl, rfl, by rw [ht]; exact hP, va_K.moved hW.alike hK, hD⟩, hS.F ht⟩) hS.2.2 dX12_resource_54
set_option maxHeartbeats 4000000 in
set_option maxRecDepth 100000 in
theorem j_X12_resource_71 {p : Program} {e : Env} {s : State} {m : MethodId} {args : Array Value} {below : List Frame} {meth : Method} {c : Code} {A : Nat → Prop} (l : Launch) (dC : Nat → ClassId) (dI : Nat → Nat → Nat) (Q : RQ) (N : Nat) (R : Int32 × RS) (hx : p.tables.exec = Jvm.exec) (hb : c.code = cX12_resource) (hr : meth.sig.returnType = (some .int)) (hml : c.maxLocals = 5) (hown : s.vm.findClass RX12 = some m.cls) (hts : ∀ w ∈ wzX12_resource, w.before args s = true) (hlocks : meth.locks = false) (hZ : zAMB s) (hA : ∀ q : Nat, s.heap.size ≤ q → A q) (hK : va_K (dC, dI) vwCl (rT Q) s) : ∀ (σ : RS) (x1 : Int32) (x3 : Int32) (x4 : Int32) (H : Heap) (locs : List Loc) (ls : Array Slot), f_X12_resource_71 N σ x1 x3 x4 = some R → va_P (dC, dI) vwCl (rW Q σ) H → va_D A (rW Q σ) → va_S A s.heap H locs → lv_has ls 5 [(0, .ref Q.h0), (1, .int x1), (3, .int x3), (4, .int x4)] → W p l e ({ frames := 2, cells := 0, slots := 0, locals := 120 }) s m args below meth c H locs 0 0 (MQ below (va_Qi (fun (r : Int32) (_ : Unit) => r = R.1) (fun (_ : Unit) (t : State) => zPost dC dI A (rW Q R.2) (rT Q) t) A) args s 0 0 A) (F0 m 71 ls []) := by
  intro σ x1 x3 x4 H locs ls hf hP hD hS hl
  unfold f_X12_resource_71 at hf
  refine lv_aload_n hx hb dX12_resource_71 rfl (lv_at hl 0 rfl) ?_
  refine rG_6 hx hb hts i_X12_resource_X12 hown hK hP (hts (.fieldLink RX12 24 "StatementRules2Model" "opening" "[I") k_X12_resource_fieldLink_RX12_24_SRModel_opening_I) dX12_resource_72 ?_
  refine lv_iload_n hx hb dX12_resource_75 rfl (lv_at hl 1 rfl) ?_
  refine lv_iload_n hx hb dX12_resource_76 rfl (lv_at hl 2 rfl) ?_
  refine lv_iconst (v := 1) hx hb dX12_resource_77 (by decide) ?_
  refine lv_iadd hx hb dX12_resource_78 ?_
  obtain ⟨b15, hf⟩ := hf_ite hf
  refine rS_6 hx hb hK hP hD hS b15 dX12_resource_79 (fun H locs hP hD hS => ?_)
  refine lv_aload_n hx hb dX12_resource_80 rfl (lv_at hl 0 rfl) ?_
  refine rG_7 hx hb hts i_X12_resource_X12 hown hK hP (hts (.fieldLink RX12 27 "StatementRules2Model" "closing" "[I") k_X12_resource_fieldLink_RX12_27_SRModel_closing_I) dX12_resource_81 ?_
  refine lv_iload_n hx hb dX12_resource_84 rfl (lv_at hl 1 rfl) ?_
  refine lv_iload hx hb dX12_resource_85 (lv_at hl 3 rfl) ?_
  refine lv_iconst (v := 1) hx hb dX12_resource_87 (by decide) ?_
  refine lv_iadd hx hb dX12_resource_88 ?_
  refine rS_7 hx hb hK hP hD hS b15 dX12_resource_89 (fun H locs hP hD hS => ?_)
  refine lv_iconst (v := 1) hx hb dX12_resource_90 (by decide) ?_
  obtain rfl := Option.some.inj hf
  exact W.iret (v := 1) hx hb hr (fun t ht hW => ⟨⟨1, (), rfl, rfl, by rw [ht]; exact hP, va_K.moved hW.alike hK, hD⟩, hS.F ht⟩) hS.2.2 dX12_resource_91
set_option maxHeartbeats 4000000 in
set_option maxRecDepth 100000 in
theorem c_X12_resource (l : Launch) (dC : Nat → ClassId) (dI : Nat → Nat → Nat) (sz : Nat) (Q : RQ) (N : Nat) (σ : RS) (x1 : Int32) (x2 : Int32) (x3 : Int32) (x4 : Int32) (R : Int32 × RS) (hf : f_X12_resource N σ x1 x2 x3 x4 = some R) : Met l yX12_resource wzX12_resource ({ frames := 2, cells := 0, slots := 0, locals := 120 }) (va_Pc [.ref Q.h0, .int x1, .int x2, .int x3, .int x4] (zPre dC dI sz (rW Q σ) (rT Q))) (va_Qi (fun (r : Int32) (_ : Unit) => r = R.1) (fun (_ : Unit) (t : State) => zPost dC dI (va_A (rW Q σ) sz) (rW Q R.2) (rT Q) t) (va_A (rW Q σ) sz)) 0 0 (va_A (rW Q σ) sz) := by
  refine Met.ofW (cc := cX12_resource) (maxL := 5) (ret := (some .int)) (by decide) rfl ?_
  intro p e s m args below meth c s₁ B hml hv
  obtain ⟨rfl, hsz, hZ, hP, hK, hD0⟩ := hv
  have hx := B.exec
  have hb := B.bytes
  have hr := B.returns
  have hts := atoms_spec (ws := wzX12_resource) B.pre
  have hown : s.vm.findClass RX12 = some m.cls := findClass_of_methodNamed B.named
  have hlocks := B.notSynchronized
  subst hsz
  have hD := hD0.self (sz := s.heap.size)
  generalize hAe : va_A (rW Q σ) s.heap.size = A at hD ⊢
  have hA : ∀ q : Nat, s.heap.size ≤ q → A q := fun q h => by rw [← hAe]; exact Or.inr h
  have hS : va_S A s.heap s.heap [] := va_S.rf
  have hl := lv_entry ([.ref Q.h0, .int x1, .int x2, .int x3, .int x4]) (n := 5) (Nat.le_of_ble_eq_true rfl)
  rw [lg_entry_eq]
  generalize (lg_sl ([.ref Q.h0, .int x1, .int x2, .int x3, .int x4]) ++ List.replicate (5 - (lg_sl ([.ref Q.h0, .int x1, .int x2, .int x3, .int x4])).length) Slot.unset).toArray = ls at hl ⊢
  have hl : lv_has ls 5 [(0, .ref Q.h0), (1, .int x1), (2, .int x2), (3, .int x3), (4, .int x4)] := hl
  unfold f_X12_resource at hf
  refine lv_aload_n hx hb dX12_resource_0 rfl (lv_at hl 0 rfl) ?_
  refine lv_iconst (v := 0) hx hb dX12_resource_1 (by decide) ?_
  refine rP_0 hx hb hts i_X12_resource_X12 hown hK hP hD hS (hts (.fieldLink RX12 273 "StatementRules2Model" "thrown" "I") k_X12_resource_fieldLink_RX12_273_SRModel_thrown_I) dX12_resource_2 (fun H locs hP hD hS => ?_)
  refine lv_iload_n hx hb dX12_resource_5 rfl (lv_at hl 1 rfl) ?_
  refine lv_iconst (v := 0) hx hb dX12_resource_6 (by decide) ?_
  refine lv_bipush (v := 7) hx hb dX12_resource_7 (by decide) ?_
  obtain ⟨p1, hcp1, hf⟩ := hf_bind hf
  have hFc := r_free hD hS hA
  refine va_calli (va_runS (As := [.int x1, .int 0, .int 7]) (rest := []) ⟨hx, hb, hml, hown, hts⟩ (c_X12_in l dC dI _ Q N (RS.setI σ 0 0) x1 0 7 p1 hcp1) (va_cwS 3 hts hX12_resource_X12_in_s279 rfl rfl rfl (by decide +kernel) ⟨Nat.le_of_ble_eq_true rfl, Nat.le_of_ble_eq_true rfl⟩) ⟨zPre.blind, zPre.go hZ hP hK hD⟩ rfl rfl hl.1 rfl (lv_room (Nat.le_of_ble_eq_true rfl)) dX12_resource_9 ⟨Nat.le_of_ble_eq_true rfl, Nat.le_of_ble_eq_true rfl⟩) hS (fun q _ h => hFc q h) hFc (fun r2 u9 t9 H1 locs ht hvm hw hB hz1 hk1 hS => ?_)
  obtain ⟨hP, hK1, hD1⟩ := hB
  rw [ht] at hP
  have hD := hD1.weaken (fun _ _ _ h => hFc _ h)
  generalize H1 = H at hP hS ⊢
  obtain rfl : r2 = p1.1 := hw
  refine lv_if_eq (tgt := 53) hx hb dX12_resource_12 (by decide) (fun c3 => ?_) (fun c3 => ?_)
  ·
    replace hf := (if_pos c3).symm.trans hf
    exact j_X12_resource_53 l dC dI Q N R hx hb hr hml hown hts hlocks hZ hA hK p1.2 _ _ _ hf hP hD hS (lv_sub hl [] rfl)
  ·
    replace hf := (if_neg c3).symm.trans hf
    refine lv_iload_n hx hb dX12_resource_15 rfl (lv_at hl 2 rfl) ?_
    refine lv_iconst (v := 0) hx hb dX12_resource_16 (by decide) ?_
    refine lv_iconst (v := 1) hx hb dX12_resource_17 (by decide) ?_
    obtain ⟨p4, hcp4, hf⟩ := hf_bind hf
    have hFc := r_free hD hS hA
    refine va_calli (va_runS (As := [.int x2, .int 0, .int 1]) (rest := []) ⟨hx, hb, hml, hown, hts⟩ (c_X12_in l dC dI _ Q N p1.2 x2 0 1 p4 hcp4) (va_cwS 3 hts hX12_resource_X12_in_s279 rfl rfl rfl (by decide +kernel) ⟨Nat.le_of_ble_eq_true rfl, Nat.le_of_ble_eq_true rfl⟩) ⟨zPre.blind, zPre.go hZ hP hK hD⟩ rfl rfl hl.1 rfl (lv_room (Nat.le_of_ble_eq_true rfl)) dX12_resource_18 ⟨Nat.le_of_ble_eq_true rfl, Nat.le_of_ble_eq_true rfl⟩) hS (fun q _ h => hFc q h) hFc (fun r5 u9 t9 H1 locs ht hvm hw hB hz1 hk1 hS => ?_)
    obtain ⟨hP, hK1, hD1⟩ := hB
    rw [ht] at hP
    have hD := hD1.weaken (fun _ _ _ h => hFc _ h)
    generalize H1 = H at hP hS ⊢
    obtain rfl : r5 = p4.1 := hw
    refine lv_if_eq (tgt := 53) hx hb dX12_resource_21 (by decide) (fun c6 => ?_) (fun c6 => ?_)
    ·
      replace hf := (if_pos c6).symm.trans hf
      exact j_X12_resource_53 l dC dI Q N R hx hb hr hml hown hts hlocks hZ hA hK p4.2 _ _ _ hf hP hD hS (lv_sub hl [] rfl)
    ·
      replace hf := (if_neg c6).symm.trans hf
      refine lv_iload_n hx hb dX12_resource_24 rfl (lv_at hl 3 rfl) ?_
      refine lv_iconst (v := (-1)) hx hb dX12_resource_25 (by decide) ?_
      refine lv_aload_n hx hb dX12_resource_26 rfl (lv_at hl 0 rfl) ?_
      refine rG_3 (v := (p4.2.i 3)) hx hb hts i_X12_resource_X12 hown hK hP (hts (.fieldLink RX12 13 "StatementRules2Model" "kinds" "I") k_X12_resource_fieldLink_RX12_13_SRModel_kinds_I) dX12_resource_27 rfl ?_
      refine lv_iconst (v := 1) hx hb dX12_resource_30 (by decide) ?_
      refine lv_isub hx hb dX12_resource_31 ?_
      obtain ⟨p7, hcp7, hf⟩ := hf_bind hf
      have hFc := r_free hD hS hA
      refine va_calli (va_runS (As := [.int x3, .int (-1), .int ((p4.2.i 3) - 1)]) (rest := []) ⟨hx, hb, hml, hown, hts⟩ (c_X12_in l dC dI _ Q N p4.2 x3 (-1) ((p4.2.i 3) - 1) p7 hcp7) (va_cwS 3 hts hX12_resource_X12_in_s279 rfl rfl rfl (by decide +kernel) ⟨Nat.le_of_ble_eq_true rfl, Nat.le_of_ble_eq_true rfl⟩) ⟨zPre.blind, zPre.go hZ hP hK hD⟩ rfl rfl hl.1 rfl (lv_room (Nat.le_of_ble_eq_true rfl)) dX12_resource_32 ⟨Nat.le_of_ble_eq_true rfl, Nat.le_of_ble_eq_true rfl⟩) hS (fun q _ h => hFc q h) hFc (fun r8 u9 t9 H1 locs ht hvm hw hB hz1 hk1 hS => ?_)
      obtain ⟨hP, hK1, hD1⟩ := hB
      rw [ht] at hP
      have hD := hD1.weaken (fun _ _ _ h => hFc _ h)
      generalize H1 = H at hP hS ⊢
      obtain rfl : r8 = p7.1 := hw
      refine lv_if_eq (tgt := 53) hx hb dX12_resource_35 (by decide) (fun c9 => ?_) (fun c9 => ?_)
      ·
        replace hf := (if_pos c9).symm.trans hf
        exact j_X12_resource_53 l dC dI Q N R hx hb hr hml hown hts hlocks hZ hA hK p7.2 _ _ _ hf hP hD hS (lv_sub hl [] rfl)
      ·
        replace hf := (if_neg c9).symm.trans hf
        refine lv_iload hx hb dX12_resource_38 (lv_at hl 4 rfl) ?_
        refine lv_iconst (v := (-1)) hx hb dX12_resource_40 (by decide) ?_
        refine lv_aload_n hx hb dX12_resource_41 rfl (lv_at hl 0 rfl) ?_
        refine rG_3 (v := (p7.2.i 3)) hx hb hts i_X12_resource_X12 hown hK hP (hts (.fieldLink RX12 13 "StatementRules2Model" "kinds" "I") k_X12_resource_fieldLink_RX12_13_SRModel_kinds_I) dX12_resource_42 rfl ?_
        refine lv_iconst (v := 1) hx hb dX12_resource_45 (by decide) ?_
        refine lv_isub hx hb dX12_resource_46 ?_
        obtain ⟨p10, hcp10, hf⟩ := hf_bind hf
        have hFc := r_free hD hS hA
        refine va_calli (va_runS (As := [.int x4, .int (-1), .int ((p7.2.i 3) - 1)]) (rest := []) ⟨hx, hb, hml, hown, hts⟩ (c_X12_in l dC dI _ Q N p7.2 x4 (-1) ((p7.2.i 3) - 1) p10 hcp10) (va_cwS 3 hts hX12_resource_X12_in_s279 rfl rfl rfl (by decide +kernel) ⟨Nat.le_of_ble_eq_true rfl, Nat.le_of_ble_eq_true rfl⟩) ⟨zPre.blind, zPre.go hZ hP hK hD⟩ rfl rfl hl.1 rfl (lv_room (Nat.le_of_ble_eq_true rfl)) dX12_resource_47 ⟨Nat.le_of_ble_eq_true rfl, Nat.le_of_ble_eq_true rfl⟩) hS (fun q _ h => hFc q h) hFc (fun r11 u9 t9 H1 locs ht hvm hw hB hz1 hk1 hS => ?_)
        obtain ⟨hP, hK1, hD1⟩ := hB
        rw [ht] at hP
        have hD := hD1.weaken (fun _ _ _ h => hFc _ h)
        generalize H1 = H at hP hS ⊢
        obtain rfl : r11 = p10.1 := hw
        refine lv_if_ne (tgt := 55) hx hb dX12_resource_50 (by decide) (fun c12 => ?_) (fun c12 => ?_)
        ·
          replace hf := (if_neg c12).symm.trans hf
          refine lv_aload_n hx hb dX12_resource_55 rfl (lv_at hl 0 rfl) ?_
          refine rG_5 hx hb hts i_X12_resource_X12 hown hK hP (hts (.fieldLink RX12 20 "StatementRules2Model" "isNull" "[Z") k_X12_resource_fieldLink_RX12_20_SRModel_isNull_Z) dX12_resource_56 ?_
          refine lv_iload_n hx hb dX12_resource_59 rfl (lv_at hl 1 rfl) ?_
          refine lv_iload_n hx hb dX12_resource_60 rfl (lv_at hl 2 rfl) ?_
          refine lv_iconst (v := 1) hx hb dX12_resource_61 (by decide) ?_
          refine lv_icmp_ne (tgt := 69) hx hb dX12_resource_62 (by decide) (fun c13 => ?_) (fun c13 => ?_)
          ·
            replace hf := (if_neg c13).symm.trans hf
            refine lv_iconst (v := 0) hx hb dX12_resource_69 (by decide) ?_
            obtain ⟨b14, hf⟩ := hf_ite hf
            refine rS_5 (v := 0) hx hb hK hP hD hS b14 dX12_resource_70 rfl (fun H locs hP hD hS => ?_)
            exact j_X12_resource_71 l dC dI Q N R hx hb hr hml hown hts hlocks hZ hA hK (RS.setA p10.2 5 ((x1 : Int32).toNatClampNeg) 0) x1 x3 x4 _ _ _ hf hP hD hS (lv_sub hl [0, 1, 3, 4] rfl)
          ·
            replace hf := (if_pos c13).symm.trans hf
            refine lv_iconst (v := 1) hx hb dX12_resource_65 (by decide) ?_
            refine lv_goto (tgt := 70) hx hb dX12_resource_66 (by decide) ?_
            obtain ⟨b16, hf⟩ := hf_ite hf
            refine rS_5 (v := 1) hx hb hK hP hD hS b16 dX12_resource_70 rfl (fun H locs hP hD hS => ?_)
            exact j_X12_resource_71 l dC dI Q N R hx hb hr hml hown hts hlocks hZ hA hK (RS.setA p10.2 5 ((x1 : Int32).toNatClampNeg) 1) x1 x3 x4 _ _ _ hf hP hD hS (lv_sub hl [0, 1, 3, 4] rfl)
        ·
          replace hf := (if_pos c12).symm.trans hf
          exact j_X12_resource_53 l dC dI Q N R hx hb hr hml hown hts hlocks hZ hA hK p10.2 _ _ _ hf hP hD hS (lv_sub hl [] rfl)
theorem k_X12_asserts_fieldLink_RX12_273_SRModel_thrown_I : Cond.fieldLink RX12 273 "StatementRules2Model" "thrown" "I" ∈ wzX12_asserts := List.mem_cons_of_mem _ (List.mem_append_left _ (List.mem_of_getElem? (i := 0) rfl))
theorem i_X12_asserts_X12 : ∀ w ∈ wsX120, w ∈ wzX12_asserts := fun _ h => List.mem_cons_of_mem _ (List.mem_append_right _ (List.mem_append_left _ (h)))
theorem k_X12_asserts_fieldLink_RX12_287_SRModel_asserting_Z : Cond.fieldLink RX12 287 "StatementRules2Model" "asserting" "Z" ∈ wzX12_asserts := List.mem_cons_of_mem _ (List.mem_append_left _ (List.mem_of_getElem? (i := 1) rfl))
set_option maxHeartbeats 4000000 in
set_option maxRecDepth 100000 in
theorem j_X12_asserts_18 {p : Program} {e : Env} {s : State} {m : MethodId} {args : Array Value} {below : List Frame} {meth : Method} {c : Code} {A : Nat → Prop} (l : Launch) (dC : Nat → ClassId) (dI : Nat → Nat → Nat) (Q : RQ) (N : Nat) (R : Int32 × RS) (hx : p.tables.exec = Jvm.exec) (hb : c.code = cX12_asserts) (hr : meth.sig.returnType = (some .int)) (hml : c.maxLocals = 3) (hown : s.vm.findClass RX12 = some m.cls) (hts : ∀ w ∈ wzX12_asserts, w.before args s = true) (hlocks : meth.locks = false) (hZ : zAMB s) (hA : ∀ q : Nat, s.heap.size ≤ q → A q) (hK : va_K (dC, dI) vwCl (rT Q) s) : ∀ (σ : RS) (x1 : Int32) (x2 : Int32) (H : Heap) (locs : List Loc) (ls : Array Slot), f_X12_asserts_18 N σ x1 x2 = some R → va_P (dC, dI) vwCl (rW Q σ) H → va_D A (rW Q σ) → va_S A s.heap H locs → lv_has ls 3 [(0, .ref Q.h0), (1, .int x1), (2, .int x2)] → W p l e ({ frames := 1, cells := 0, slots := 0, locals := 60 }) s m args below meth c H locs 0 0 (MQ below (va_Qi (fun (r : Int32) (_ : Unit) => r = R.1) (fun (_ : Unit) (t : State) => zPost dC dI A (rW Q R.2) (rT Q) t) A) args s 0 0 A) (F0 m 18 ls []) := by
  intro σ x1 x2 H locs ls hf hP hD hS hl
  unfold f_X12_asserts_18 at hf
  refine lv_aload_n hx hb dX12_asserts_18 rfl (lv_at hl 0 rfl) ?_
  refine lv_iload_n hx hb dX12_asserts_19 rfl (lv_at hl 1 rfl) ?_
  obtain ⟨b2, hf⟩ := hf_ite hf
  refine rP_8 hx hb hts i_X12_asserts_X12 hown hK hP hD hS (hts (.fieldLink RX12 287 "StatementRules2Model" "asserting" "Z") k_X12_asserts_fieldLink_RX12_287_SRModel_asserting_Z) dX12_asserts_20 b2 (fun H locs hP hD hS => ?_)
  refine lv_iload_n hx hb dX12_asserts_23 rfl (lv_at hl 2 rfl) ?_
  obtain rfl := Option.some.inj hf
  exact W.iret (v := x2) hx hb hr (fun t ht hW => ⟨⟨x2, (), rfl, rfl, by rw [ht]; exact hP, va_K.moved hW.alike hK, hD⟩, hS.F ht⟩) hS.2.2 dX12_asserts_24
set_option maxHeartbeats 4000000 in
set_option maxRecDepth 100000 in
theorem c_X12_asserts (l : Launch) (dC : Nat → ClassId) (dI : Nat → Nat → Nat) (sz : Nat) (Q : RQ) (N : Nat) (σ : RS) (x1 : Int32) (R : Int32 × RS) (hf : f_X12_asserts N σ x1 = some R) : Met l yX12_asserts wzX12_asserts ({ frames := 1, cells := 0, slots := 0, locals := 60 }) (va_Pc [.ref Q.h0, .int x1] (zPre dC dI sz (rW Q σ) (rT Q))) (va_Qi (fun (r : Int32) (_ : Unit) => r = R.1) (fun (_ : Unit) (t : State) => zPost dC dI (va_A (rW Q σ) sz) (rW Q R.2) (rT Q) t) (va_A (rW Q σ) sz)) 0 0 (va_A (rW Q σ) sz) := by
  refine Met.ofW (cc := cX12_asserts) (maxL := 3) (ret := (some .int)) (by decide) rfl ?_
  intro p e s m args below meth c s₁ B hml hv
  obtain ⟨rfl, hsz, hZ, hP, hK, hD0⟩ := hv
  have hx := B.exec
  have hb := B.bytes
  have hr := B.returns
  have hts := atoms_spec (ws := wzX12_asserts) B.pre
  have hown : s.vm.findClass RX12 = some m.cls := findClass_of_methodNamed B.named
  have hlocks := B.notSynchronized
  subst hsz
  have hD := hD0.self (sz := s.heap.size)
  generalize hAe : va_A (rW Q σ) s.heap.size = A at hD ⊢
  have hA : ∀ q : Nat, s.heap.size ≤ q → A q := fun q h => by rw [← hAe]; exact Or.inr h
  have hS : va_S A s.heap s.heap [] := va_S.rf
  have hl := lv_entry ([.ref Q.h0, .int x1]) (n := 3) (Nat.le_of_ble_eq_true rfl)
  rw [lg_entry_eq]
  generalize (lg_sl ([.ref Q.h0, .int x1]) ++ List.replicate (3 - (lg_sl ([.ref Q.h0, .int x1])).length) Slot.unset).toArray = ls at hl ⊢
  have hl : lv_has ls 3 [(0, .ref Q.h0), (1, .int x1)] := hl
  unfold f_X12_asserts at hf
  refine lv_aload_n hx hb dX12_asserts_0 rfl (lv_at hl 0 rfl) ?_
  refine lv_iconst (v := 0) hx hb dX12_asserts_1 (by decide) ?_
  refine rP_0 hx hb hts i_X12_asserts_X12 hown hK hP hD hS (hts (.fieldLink RX12 273 "StatementRules2Model" "thrown" "I") k_X12_asserts_fieldLink_RX12_273_SRModel_thrown_I) dX12_asserts_2 (fun H locs hP hD hS => ?_)
  refine lv_aload_n hx hb dX12_asserts_5 rfl (lv_at hl 0 rfl) ?_
  refine rG_8 (v := (σ.i 8)) hx hb hts i_X12_asserts_X12 hown hK hP (hts (.fieldLink RX12 287 "StatementRules2Model" "asserting" "Z") k_X12_asserts_fieldLink_RX12_287_SRModel_asserting_Z) dX12_asserts_6 rfl ?_
  refine lv_if_eq (tgt := 16) hx hb dX12_asserts_9 (by decide) (fun c1 => ?_) (fun c1 => ?_)
  ·
    replace hf := (if_pos c1).symm.trans hf
    refine lv_iconst (v := 0) hx hb dX12_asserts_16 (by decide) ?_
    refine lv_istore_n (lv' := [(2, .int 0), (0, .ref Q.h0), (1, .int x1)]) hx hb dX12_asserts_17 rfl hl (by decide) rfl (fun ls hl => ?_)
    exact j_X12_asserts_18 l dC dI Q N R hx hb hr hml hown hts hlocks hZ hA hK (RS.setI σ 0 0) x1 0 _ _ _ hf hP hD hS (lv_sub hl [1, 2, 0] rfl)
  ·
    replace hf := (if_neg c1).symm.trans hf
    refine lv_iconst (v := 1) hx hb dX12_asserts_12 (by decide) ?_
    refine lv_goto (tgt := 17) hx hb dX12_asserts_13 (by decide) ?_
    refine lv_istore_n (lv' := [(2, .int 1), (0, .ref Q.h0), (1, .int x1)]) hx hb dX12_asserts_17 rfl hl (by decide) rfl (fun ls hl => ?_)
    exact j_X12_asserts_18 l dC dI Q N R hx hb hr hml hown hts hlocks hZ hA hK (RS.setI σ 0 0) x1 1 _ _ _ hf hP hD hS (lv_sub hl [1, 2, 0] rfl)
theorem k_X12_at_fieldLink_RX12_276_SRModel_taped_I : Cond.fieldLink RX12 276 "StatementRules2Model" "taped" "I" ∈ wzX12_at := List.mem_cons_of_mem _ (List.mem_append_left _ (List.mem_of_getElem? (i := 0) rfl))
theorem i_X12_at_X12 : ∀ w ∈ wsX120, w ∈ wzX12_at := fun _ h => List.mem_cons_of_mem _ (List.mem_append_right _ (List.mem_append_left _ (h)))
theorem k_X12_at_fieldLink_RX12_7_SRModel_tape_I : Cond.fieldLink RX12 7 "StatementRules2Model" "tape" "[I" ∈ wzX12_at := List.mem_cons_of_mem _ (List.mem_append_left _ (List.mem_of_getElem? (i := 1) rfl))
set_option maxHeartbeats 4000000 in
set_option maxRecDepth 100000 in
theorem c_X12_at (l : Launch) (dC : Nat → ClassId) (dI : Nat → Nat → Nat) (sz : Nat) (Q : RQ) (N : Nat) (σ : RS) (x1 : Int32) (R : Int32 × RS) (hf : f_X12_at N σ x1 = some R) : Met l yX12_at wzX12_at ({ frames := 1, cells := 0, slots := 0, locals := 60 }) (va_Pc [.ref Q.h0, .int x1] (zPre dC dI sz (rW Q σ) (rT Q))) (va_Qi (fun (r : Int32) (_ : Unit) => r = R.1) (fun (_ : Unit) (t : State) => zPost dC dI (va_A (rW Q σ) sz) (rW Q R.2) (rT Q) t) (va_A (rW Q σ) sz)) 0 0 (va_A (rW Q σ) sz) := by
  refine Met.ofW (cc := cX12_at) (maxL := 2) (ret := (some .int)) (by decide) rfl ?_
  intro p e s m args below meth c s₁ B hml hv
  obtain ⟨rfl, hsz, hZ, hP, hK, hD0⟩ := hv
  have hx := B.exec
  have hb := B.bytes
  have hr := B.returns
  have hts := atoms_spec (ws := wzX12_at) B.pre
  have hown : s.vm.findClass RX12 = some m.cls := findClass_of_methodNamed B.named
  have hlocks := B.notSynchronized
  subst hsz
  have hD := hD0.self (sz := s.heap.size)
  generalize hAe : va_A (rW Q σ) s.heap.size = A at hD ⊢
  have hA : ∀ q : Nat, s.heap.size ≤ q → A q := fun q h => by rw [← hAe]; exact Or.inr h
  have hS : va_S A s.heap s.heap [] := va_S.rf
  have hl := lv_entry ([.ref Q.h0, .int x1]) (n := 2) (Nat.le_of_ble_eq_true rfl)
  rw [lg_entry_eq]
  generalize (lg_sl ([.ref Q.h0, .int x1]) ++ List.replicate (2 - (lg_sl ([.ref Q.h0, .int x1])).length) Slot.unset).toArray = ls at hl ⊢
  have hl : lv_has ls 2 [(0, .ref Q.h0), (1, .int x1)] := hl
  unfold f_X12_at at hf
  refine lv_iload_n hx hb dX12_at_0 rfl (lv_at hl 1 rfl) ?_
  refine lv_aload_n hx hb dX12_at_1 rfl (lv_at hl 0 rfl) ?_
  refine rG_2 (v := (σ.i 2)) hx hb hts i_X12_at_X12 hown hK hP (hts (.fieldLink RX12 276 "StatementRules2Model" "taped" "I") k_X12_at_fieldLink_RX12_276_SRModel_taped_I) dX12_at_2 rfl ?_
  refine lv_icmp_ge (tgt := 17) hx hb dX12_at_5 (by decide) (fun c1 => ?_) (fun c1 => ?_)
  ·
    replace hf := (if_pos c1).symm.trans hf
    refine lv_iconst (v := 0) hx hb dX12_at_17 (by decide) ?_
    obtain rfl := Option.some.inj hf
    exact W.iret (v := 0) hx hb hr (fun t ht hW => ⟨⟨0, (), rfl, rfl, by rw [ht]; exact hP, va_K.moved hW.alike hK, hD⟩, hS.F ht⟩) hS.2.2 dX12_at_18
  ·
    replace hf := (if_neg c1).symm.trans hf
    refine lv_aload_n hx hb dX12_at_8 rfl (lv_at hl 0 rfl) ?_
    refine rG_1 hx hb hts i_X12_at_X12 hown hK hP (hts (.fieldLink RX12 7 "StatementRules2Model" "tape" "[I") k_X12_at_fieldLink_RX12_7_SRModel_tape_I) dX12_at_9 ?_
    refine lv_iload_n hx hb dX12_at_12 rfl (lv_at hl 1 rfl) ?_
    obtain ⟨b2, hf⟩ := hf_ite hf
    refine rL_1 (v := (σ.a 1 ((x1 : Int32).toNatClampNeg))) hx hb hK hP b2 dX12_at_13 rfl ?_
    refine lv_goto (tgt := 18) hx hb dX12_at_14 (by decide) ?_
    obtain rfl := Option.some.inj hf
    exact W.iret (v := (σ.a 1 ((x1 : Int32).toNatClampNeg))) hx hb hr (fun t ht hW => ⟨⟨(σ.a 1 ((x1 : Int32).toNatClampNeg)), (), rfl, rfl, by rw [ht]; exact hP, va_K.moved hW.alike hK, hD⟩, hS.F ht⟩) hS.2.2 dX12_at_18
set_option maxHeartbeats 4000000 in
set_option maxRecDepth 100000 in
theorem j_X12_isLetter_16 {p : Program} {e : Env} {s : State} {m : MethodId} {args : Array Value} {below : List Frame} {meth : Method} {c : Code} {A : Nat → Prop} (l : Launch) (dC : Nat → ClassId) (dI : Nat → Nat → Nat) (Q : RQ) (N : Nat) (R : Int32 × RS) (hx : p.tables.exec = Jvm.exec) (hb : c.code = cX12_isLetter) (hr : meth.sig.returnType = (some .boolean)) (hml : c.maxLocals = 1) (hown : s.vm.findClass RX12 = some m.cls) (hts : ∀ w ∈ wzX12_isLetter, w.before args s = true) (hlocks : meth.locks = false) (hZ : zAMB s) (hA : ∀ q : Nat, s.heap.size ≤ q → A q) (hK : va_K (dC, dI) vwCl (rT Q) s) : ∀ (σ : RS) (H : Heap) (locs : List Loc) (ls : Array Slot), f_X12_isLetter_16 N σ = some R → va_P (dC, dI) vwCl (rW Q σ) H → va_D A (rW Q σ) → va_S A s.heap H locs → lv_has ls 1 [] → W p l e ({ frames := 1, cells := 0, slots := 0, locals := 60 }) s m args below meth c H locs 0 0 (MQ below (va_Qi (fun (r : Int32) (_ : Unit) => r = R.1) (fun (_ : Unit) (t : State) => zPost dC dI A (rW Q R.2) (rT Q) t) A) args s 0 0 A) (F0 m 16 ls []) := by
  intro σ  H locs ls hf hP hD hS hl
  unfold f_X12_isLetter_16 at hf
  refine lv_iconst (v := 0) hx hb dX12_isLetter_16 (by decide) ?_
  obtain rfl := Option.some.inj hf
  exact W.zret (v := 0) hx hb hr (rfl) (fun t ht hW => ⟨⟨0, (), rfl, rfl, by rw [ht]; exact hP, va_K.moved hW.alike hK, hD⟩, hS.F ht⟩) hS.2.2 dX12_isLetter_17
set_option maxHeartbeats 4000000 in
set_option maxRecDepth 100000 in
theorem c_X12_isLetter (l : Launch) (dC : Nat → ClassId) (dI : Nat → Nat → Nat) (sz : Nat) (Q : RQ) (N : Nat) (σ : RS) (x0 : Int32) (R : Int32 × RS) (hf : f_X12_isLetter N σ x0 = some R) : Met l yX12_isLetter wzX12_isLetter ({ frames := 1, cells := 0, slots := 0, locals := 60 }) (va_Pc [.int x0] (zPre dC dI sz (rW Q σ) (rT Q))) (va_Qi (fun (r : Int32) (_ : Unit) => r = R.1) (fun (_ : Unit) (t : State) => zPost dC dI (va_A (rW Q σ) sz) (rW Q R.2) (rT Q) t) (va_A (rW Q σ) sz)) 0 0 (va_A (rW Q σ) sz) := by
  refine Met.ofW (cc := cX12_isLetter) (maxL := 1) (ret := (some .boolean)) (by decide) rfl ?_
  intro p e s m args below meth c s₁ B hml hv
  obtain ⟨rfl, hsz, hZ, hP, hK, hD0⟩ := hv
  have hx := B.exec
  have hb := B.bytes
  have hr := B.returns
  have hts := atoms_spec (ws := wzX12_isLetter) B.pre
  have hown : s.vm.findClass RX12 = some m.cls := findClass_of_methodNamed B.named
  have hlocks := B.notSynchronized
  subst hsz
  have hD := hD0.self (sz := s.heap.size)
  generalize hAe : va_A (rW Q σ) s.heap.size = A at hD ⊢
  have hA : ∀ q : Nat, s.heap.size ≤ q → A q := fun q h => by rw [← hAe]; exact Or.inr h
  have hS : va_S A s.heap s.heap [] := va_S.rf
  have hl := lv_entry ([.int x0]) (n := 1) (Nat.le_of_ble_eq_true rfl)
  rw [lg_entry_eq]
  generalize (lg_sl ([.int x0]) ++ List.replicate (1 - (lg_sl ([.int x0])).length) Slot.unset).toArray = ls at hl ⊢
  have hl : lv_has ls 1 [(0, .int x0)] := hl
  unfold f_X12_isLetter at hf
  refine lv_iload_n hx hb dX12_isLetter_0 rfl (lv_at hl 0 rfl) ?_
  refine lv_bipush (v := 97) hx hb dX12_isLetter_1 (by decide) ?_
  refine lv_icmp_lt (tgt := 16) hx hb dX12_isLetter_3 (by decide) (fun c1 => ?_) (fun c1 => ?_)
  ·
    replace hf := (if_pos c1).symm.trans hf
    exact j_X12_isLetter_16 l dC dI Q N R hx hb hr hml hown hts hlocks hZ hA hK σ _ _ _ hf hP hD hS (lv_sub hl [] rfl)
  ·
    replace hf := (if_neg c1).symm.trans hf
    refine lv_iload_n hx hb dX12_isLetter_6 rfl (lv_at hl 0 rfl) ?_
    refine lv_bipush (v := 122) hx hb dX12_isLetter_7 (by decide) ?_
    refine lv_icmp_gt (tgt := 16) hx hb dX12_isLetter_9 (by decide) (fun c2 => ?_) (fun c2 => ?_)
    ·
      replace hf := (if_pos c2).symm.trans hf
      exact j_X12_isLetter_16 l dC dI Q N R hx hb hr hml hown hts hlocks hZ hA hK σ _ _ _ hf hP hD hS (lv_sub hl [] rfl)
    ·
      replace hf := (if_neg c2).symm.trans hf
      refine lv_iconst (v := 1) hx hb dX12_isLetter_12 (by decide) ?_
      refine lv_goto (tgt := 17) hx hb dX12_isLetter_13 (by decide) ?_
      obtain rfl := Option.some.inj hf
      exact W.zret (v := 1) hx hb hr (rfl) (fun t ht hW => ⟨⟨1, (), rfl, rfl, by rw [ht]; exact hP, va_K.moved hW.alike hK, hD⟩, hS.F ht⟩) hS.2.2 dX12_isLetter_17
set_option maxHeartbeats 4000000 in
set_option maxRecDepth 100000 in
theorem j_X12_isDigit_16 {p : Program} {e : Env} {s : State} {m : MethodId} {args : Array Value} {below : List Frame} {meth : Method} {c : Code} {A : Nat → Prop} (l : Launch) (dC : Nat → ClassId) (dI : Nat → Nat → Nat) (Q : RQ) (N : Nat) (R : Int32 × RS) (hx : p.tables.exec = Jvm.exec) (hb : c.code = cX12_isDigit) (hr : meth.sig.returnType = (some .boolean)) (hml : c.maxLocals = 1) (hown : s.vm.findClass RX12 = some m.cls) (hts : ∀ w ∈ wzX12_isDigit, w.before args s = true) (hlocks : meth.locks = false) (hZ : zAMB s) (hA : ∀ q : Nat, s.heap.size ≤ q → A q) (hK : va_K (dC, dI) vwCl (rT Q) s) : ∀ (σ : RS) (H : Heap) (locs : List Loc) (ls : Array Slot), f_X12_isDigit_16 N σ = some R → va_P (dC, dI) vwCl (rW Q σ) H → va_D A (rW Q σ) → va_S A s.heap H locs → lv_has ls 1 [] → W p l e ({ frames := 1, cells := 0, slots := 0, locals := 60 }) s m args below meth c H locs 0 0 (MQ below (va_Qi (fun (r : Int32) (_ : Unit) => r = R.1) (fun (_ : Unit) (t : State) => zPost dC dI A (rW Q R.2) (rT Q) t) A) args s 0 0 A) (F0 m 16 ls []) := by
  intro σ  H locs ls hf hP hD hS hl
  unfold f_X12_isDigit_16 at hf
  refine lv_iconst (v := 0) hx hb dX12_isDigit_16 (by decide) ?_
  obtain rfl := Option.some.inj hf
  exact W.zret (v := 0) hx hb hr (rfl) (fun t ht hW => ⟨⟨0, (), rfl, rfl, by rw [ht]; exact hP, va_K.moved hW.alike hK, hD⟩, hS.F ht⟩) hS.2.2 dX12_isDigit_17
set_option maxHeartbeats 4000000 in
set_option maxRecDepth 100000 in
theorem c_X12_isDigit (l : Launch) (dC : Nat → ClassId) (dI : Nat → Nat → Nat) (sz : Nat) (Q : RQ) (N : Nat) (σ : RS) (x0 : Int32) (R : Int32 × RS) (hf : f_X12_isDigit N σ x0 = some R) : Met l yX12_isDigit wzX12_isDigit ({ frames := 1, cells := 0, slots := 0, locals := 60 }) (va_Pc [.int x0] (zPre dC dI sz (rW Q σ) (rT Q))) (va_Qi (fun (r : Int32) (_ : Unit) => r = R.1) (fun (_ : Unit) (t : State) => zPost dC dI (va_A (rW Q σ) sz) (rW Q R.2) (rT Q) t) (va_A (rW Q σ) sz)) 0 0 (va_A (rW Q σ) sz) := by
  refine Met.ofW (cc := cX12_isDigit) (maxL := 1) (ret := (some .boolean)) (by decide) rfl ?_
  intro p e s m args below meth c s₁ B hml hv
  obtain ⟨rfl, hsz, hZ, hP, hK, hD0⟩ := hv
  have hx := B.exec
  have hb := B.bytes
  have hr := B.returns
  have hts := atoms_spec (ws := wzX12_isDigit) B.pre
  have hown : s.vm.findClass RX12 = some m.cls := findClass_of_methodNamed B.named
  have hlocks := B.notSynchronized
  subst hsz
  have hD := hD0.self (sz := s.heap.size)
  generalize hAe : va_A (rW Q σ) s.heap.size = A at hD ⊢
  have hA : ∀ q : Nat, s.heap.size ≤ q → A q := fun q h => by rw [← hAe]; exact Or.inr h
  have hS : va_S A s.heap s.heap [] := va_S.rf
  have hl := lv_entry ([.int x0]) (n := 1) (Nat.le_of_ble_eq_true rfl)
  rw [lg_entry_eq]
  generalize (lg_sl ([.int x0]) ++ List.replicate (1 - (lg_sl ([.int x0])).length) Slot.unset).toArray = ls at hl ⊢
  have hl : lv_has ls 1 [(0, .int x0)] := hl
  unfold f_X12_isDigit at hf
  refine lv_iload_n hx hb dX12_isDigit_0 rfl (lv_at hl 0 rfl) ?_
  refine lv_bipush (v := 48) hx hb dX12_isDigit_1 (by decide) ?_
  refine lv_icmp_lt (tgt := 16) hx hb dX12_isDigit_3 (by decide) (fun c1 => ?_) (fun c1 => ?_)
  ·
    replace hf := (if_pos c1).symm.trans hf
    exact j_X12_isDigit_16 l dC dI Q N R hx hb hr hml hown hts hlocks hZ hA hK σ _ _ _ hf hP hD hS (lv_sub hl [] rfl)
  ·
    replace hf := (if_neg c1).symm.trans hf
    refine lv_iload_n hx hb dX12_isDigit_6 rfl (lv_at hl 0 rfl) ?_
    refine lv_bipush (v := 57) hx hb dX12_isDigit_7 (by decide) ?_
    refine lv_icmp_gt (tgt := 16) hx hb dX12_isDigit_9 (by decide) (fun c2 => ?_) (fun c2 => ?_)
    ·
      replace hf := (if_pos c2).symm.trans hf
      exact j_X12_isDigit_16 l dC dI Q N R hx hb hr hml hown hts hlocks hZ hA hK σ _ _ _ hf hP hD hS (lv_sub hl [] rfl)
    ·
      replace hf := (if_neg c2).symm.trans hf
      refine lv_iconst (v := 1) hx hb dX12_isDigit_12 (by decide) ?_
      refine lv_goto (tgt := 17) hx hb dX12_isDigit_13 (by decide) ?_
      obtain rfl := Option.some.inj hf
      exact W.zret (v := 1) hx hb hr (rfl) (fun t ht hW => ⟨⟨1, (), rfl, rfl, by rw [ht]; exact hP, va_K.moved hW.alike hK, hD⟩, hS.F ht⟩) hS.2.2 dX12_isDigit_17
theorem k_X12_readName_fieldLink_RX12_327_SRModel_name_J : Cond.fieldLink RX12 327 "StatementRules2Model" "name" "J" ∈ wzX12_readName := List.mem_cons_of_mem _ (List.mem_append_left _ (List.mem_of_getElem? (i := 0) rfl))
theorem i_X12_readName_X12 : ∀ w ∈ wsX120, w ∈ wzX12_readName := fun _ h => List.mem_cons_of_mem _ (List.mem_append_right _ (List.mem_append_left _ (h)))
theorem k_X12_readName_fieldLink_RX12_297_SRModel_to_I : Cond.fieldLink RX12 297 "StatementRules2Model" "to" "I" ∈ wzX12_readName := List.mem_cons_of_mem _ (List.mem_append_left _ (List.mem_of_getElem? (i := 1) rfl))
theorem k_X12_readName_fieldLink_RX12_304_SRModel_from_I : Cond.fieldLink RX12 304 "StatementRules2Model" "from" "I" ∈ wzX12_readName := List.mem_cons_of_mem _ (List.mem_append_left _ (List.mem_of_getElem? (i := 2) rfl))
theorem k_X12_readName_fieldLink_RX12_307_SRModel_tok_I : Cond.fieldLink RX12 307 "StatementRules2Model" "tok" "I" ∈ wzX12_readName := List.mem_cons_of_mem _ (List.mem_append_left _ (List.mem_of_getElem? (i := 3) rfl))
theorem k_X12_readName_fieldLink_RX12_80_SRModel_words_J : Cond.fieldLink RX12 80 "StatementRules2Model" "words" "[J" ∈ wzX12_readName := List.mem_cons_of_mem _ (List.mem_append_left _ (List.mem_of_getElem? (i := 4) rfl))
theorem k_X12_readName_fieldLink_RX12_314_SRModel_number_I : Cond.fieldLink RX12 314 "StatementRules2Model" "number" "I" ∈ wzX12_readName := List.mem_cons_of_mem _ (List.mem_append_left _ (List.mem_of_getElem? (i := 5) rfl))
set_option maxHeartbeats 4000000 in
set_option maxRecDepth 100000 in
theorem j_X12_readName_260 {p : Program} {e : Env} {s : State} {m : MethodId} {args : Array Value} {below : List Frame} {meth : Method} {c : Code} {A : Nat → Prop} (l : Launch) (dC : Nat → ClassId) (dI : Nat → Nat → Nat) (Q : RQ) (N : Nat) (R : RS) (hx : p.tables.exec = Jvm.exec) (hb : c.code = cX12_readName) (hr : meth.sig.returnType = none) (hml : c.maxLocals = 5) (hown : s.vm.findClass RX12 = some m.cls) (hts : ∀ w ∈ wzX12_readName, w.before args s = true) (hlocks : meth.locks = false) (hZ : zAMB s) (hA : ∀ q : Nat, s.heap.size ≤ q → A q) (hK : va_K (dC, dI) vwCl (rT Q) s) : ∀ (n9 : Nat), ∀ (σ : RS) (x4 : Int32) (H : Heap) (locs : List Loc) (ls : Array Slot), f_X12_readName_260 N n9 σ x4 = some R → va_P (dC, dI) vwCl (rW Q σ) H → va_D A (rW Q σ) → va_S A s.heap H locs → lv_has ls 5 [(0, .ref Q.h0), (4, .int x4)] → W p l e ({ frames := 2, cells := 0, slots := 0, locals := 120 }) s m args below meth c H locs 0 0 (MQ below (va_Qv (fun (_ : Unit) => True) (fun (_ : Unit) (t : State) => zPost dC dI A (rW Q R) (rT Q) t) A) args s 0 0 A) (F0 m 260 ls []) := by
  intro n9
  induction n9 with
  | zero => intro σ x4 H locs ls hf; exact absurd hf (by intro h9; cases h9)
  | succ n9 ih =>
    intro σ x4 H locs ls hf hP hD hS hl
    replace hf : b_X12_readName_260 N (f_X12_readName_260 N n9) σ x4 = some R := hf
    unfold b_X12_readName_260 at hf
    refine lv_iload hx hb dX12_readName_260 (lv_at hl 1 rfl) ?_
    refine lv_bipush (v := 25) hx hb dX12_readName_262 (by decide) ?_
    refine lv_icmp_ge (tgt := 305) hx hb dX12_readName_264 (by decide) (fun c20 => ?_) (fun c20 => ?_)
    ·
      replace hf := (if_pos c20).symm.trans hf
      obtain rfl := Option.some.inj hf
      exact W.vret hx hb hr (fun t ht hW => ⟨⟨(), rfl, trivial, by rw [ht]; exact hP, va_K.moved hW.alike hK, hD⟩, hS.F ht⟩) hS.2.2 dX12_readName_305
    ·
      replace hf := (if_neg c20).symm.trans hf
      refine lv_aload_n hx hb dX12_readName_267 rfl (lv_at hl 0 rfl) ?_
      refine lv_aload_n hx hb dX12_readName_268 rfl (lv_at hl 0 rfl) ?_
      refine rG_9 hx hb hts i_X12_readName_X12 hown hK hP (hts (.fieldLink RX12 80 "StatementRules2Model" "words" "[J") k_X12_readName_fieldLink_RX12_80_SRModel_words_J) dX12_readName_269 ?_
      refine lv_iload hx hb dX12_readName_272 (lv_at hl 1 rfl) ?_
      obtain ⟨b21, hf⟩ := hf_ite hf
      refine rL_9 (v := (σ.b 9 ((x4 : Int32).toNatClampNeg))) hx hb hK hP b21 dX12_readName_274 rfl ?_
      refine lv_aload_n hx hb dX12_readName_275 rfl (lv_at hl 0 rfl) ?_
      refine rG_13 (v := σ.l) hx hb hts i_X12_readName_X12 hown hK hP (hts (.fieldLink RX12 327 "StatementRules2Model" "name" "J") k_X12_readName_fieldLink_RX12_327_SRModel_name_J) dX12_readName_276 rfl ?_
      refine W.lcmp hx hb dX12_readName_279 ?_
      refine lv_if_ne (tgt := 292) hx hb dX12_readName_280 (by decide) (fun c22 => ?_) (fun c22 => ?_)
      ·
        replace hf := (if_neg c22).symm.trans hf
        refine lv_aload_n hx hb dX12_readName_292 rfl (lv_at hl 0 rfl) ?_
        refine rG_10 (v := (σ.i 10)) hx hb hts i_X12_readName_X12 hown hK hP (hts (.fieldLink RX12 307 "StatementRules2Model" "tok" "I") k_X12_readName_fieldLink_RX12_307_SRModel_tok_I) dX12_readName_293 rfl ?_
        refine rP_10 hx hb hts i_X12_readName_X12 hown hK hP hD hS (hts (.fieldLink RX12 307 "StatementRules2Model" "tok" "I") k_X12_readName_fieldLink_RX12_307_SRModel_tok_I) dX12_readName_296 (fun H locs hP hD hS => ?_)
        refine lv_iinc (v := (x4 + 1)) (lv' := [(4, .int (x4 + 1)), (0, .ref Q.h0)]) hx hb dX12_readName_299 hl (k := 1) rfl rfl (by decide) rfl (fun ls hl => ?_)
        refine lv_goto (tgt := 260) hx hb dX12_readName_302 (by decide) ?_
        exact ih (RS.setI σ 10 (σ.i 10)) (x4 + 1) _ _ _ hf hP hD hS (lv_sub hl [1, 0] rfl)
      ·
        replace hf := (if_pos c22).symm.trans hf
        refine lv_sipush (v := 410) hx hb dX12_readName_283 (by decide) ?_
        refine lv_iload hx hb dX12_readName_286 (lv_at hl 1 rfl) ?_
        refine lv_iadd hx hb dX12_readName_288 ?_
        refine lv_goto (tgt := 296) hx hb dX12_readName_289 (by decide) ?_
        refine rP_10 hx hb hts i_X12_readName_X12 hown hK hP hD hS (hts (.fieldLink RX12 307 "StatementRules2Model" "tok" "I") k_X12_readName_fieldLink_RX12_307_SRModel_tok_I) dX12_readName_296 (fun H locs hP hD hS => ?_)
        refine lv_iinc (v := (x4 + 1)) (lv' := [(4, .int (x4 + 1)), (0, .ref Q.h0)]) hx hb dX12_readName_299 hl (k := 1) rfl rfl (by decide) rfl (fun ls hl => ?_)
        refine lv_goto (tgt := 260) hx hb dX12_readName_302 (by decide) ?_
        exact ih (RS.setI σ 10 (410 + x4)) (x4 + 1) _ _ _ hf hP hD hS (lv_sub hl [1, 0] rfl)
set_option maxHeartbeats 4000000 in
set_option maxRecDepth 100000 in
theorem j_X12_readName_257 {p : Program} {e : Env} {s : State} {m : MethodId} {args : Array Value} {below : List Frame} {meth : Method} {c : Code} {A : Nat → Prop} (l : Launch) (dC : Nat → ClassId) (dI : Nat → Nat → Nat) (Q : RQ) (N : Nat) (R : RS) (hx : p.tables.exec = Jvm.exec) (hb : c.code = cX12_readName) (hr : meth.sig.returnType = none) (hml : c.maxLocals = 5) (hown : s.vm.findClass RX12 = some m.cls) (hts : ∀ w ∈ wzX12_readName, w.before args s = true) (hlocks : meth.locks = false) (hZ : zAMB s) (hA : ∀ q : Nat, s.heap.size ≤ q → A q) (hK : va_K (dC, dI) vwCl (rT Q) s) : ∀ (σ : RS) (H : Heap) (locs : List Loc) (ls : Array Slot), f_X12_readName_257 N σ = some R → va_P (dC, dI) vwCl (rW Q σ) H → va_D A (rW Q σ) → va_S A s.heap H locs → lv_has ls 5 [(0, .ref Q.h0)] → W p l e ({ frames := 2, cells := 0, slots := 0, locals := 120 }) s m args below meth c H locs 0 0 (MQ below (va_Qv (fun (_ : Unit) => True) (fun (_ : Unit) (t : State) => zPost dC dI A (rW Q R) (rT Q) t) A) args s 0 0 A) (F0 m 257 ls []) := by
  intro σ  H locs ls hf hP hD hS hl
  unfold f_X12_readName_257 at hf
  refine lv_iconst (v := 0) hx hb dX12_readName_257 (by decide) ?_
  refine lv_istore (lv' := [(4, .int 0), (0, .ref Q.h0)]) hx hb dX12_readName_258 hl (by decide) rfl (fun ls hl => ?_)
  exact j_X12_readName_260 l dC dI Q N R hx hb hr hml hown hts hlocks hZ hA hK N σ 0 _ _ _ hf hP hD hS (lv_sub hl [1, 0] rfl)
set_option maxHeartbeats 4000000 in
set_option maxRecDepth 100000 in
theorem j_X12_readName_254 {p : Program} {e : Env} {s : State} {m : MethodId} {args : Array Value} {below : List Frame} {meth : Method} {c : Code} {A : Nat → Prop} (l : Launch) (dC : Nat → ClassId) (dI : Nat → Nat → Nat) (Q : RQ) (N : Nat) (R : RS) (hx : p.tables.exec = Jvm.exec) (hb : c.code = cX12_readName) (hr : meth.sig.returnType = none) (hml : c.maxLocals = 5) (hown : s.vm.findClass RX12 = some m.cls) (hts : ∀ w ∈ wzX12_readName, w.before args s = true) (hlocks : meth.locks = false) (hZ : zAMB s) (hA : ∀ q : Nat, s.heap.size ≤ q → A q) (hK : va_K (dC, dI) vwCl (rT Q) s) : ∀ (σ : RS) (H : Heap) (locs : List Loc) (ls : Array Slot), f_X12_readName_254 N σ = some R → va_P (dC, dI) vwCl (rW Q σ) H → va_D A (rW Q σ) → va_S A s.heap H locs → lv_has ls 5 [] → W p l e ({ frames := 2, cells := 0, slots := 0, locals := 120 }) s m args below meth c H locs 0 0 (MQ below (va_Qv (fun (_ : Unit) => True) (fun (_ : Unit) (t : State) => zPost dC dI A (rW Q R) (rT Q) t) A) args s 0 0 A) (F0 m 254 ls []) := by
  intro σ  H locs ls hf hP hD hS hl
  unfold f_X12_readName_254 at hf
  refine lv_goto (tgt := 305) hx hb dX12_readName_254 (by decide) ?_
  obtain rfl := Option.some.inj hf
  exact W.vret hx hb hr (fun t ht hW => ⟨⟨(), rfl, trivial, by rw [ht]; exact hP, va_K.moved hW.alike hK, hD⟩, hS.F ht⟩) hS.2.2 dX12_readName_305
set_option maxHeartbeats 4000000 in
set_option maxRecDepth 100000 in
theorem j_X12_readName_220 {p : Program} {e : Env} {s : State} {m : MethodId} {args : Array Value} {below : List Frame} {meth : Method} {c : Code} {A : Nat → Prop} (l : Launch) (dC : Nat → ClassId) (dI : Nat → Nat → Nat) (Q : RQ) (N : Nat) (R : RS) (hx : p.tables.exec = Jvm.exec) (hb : c.code = cX12_readName) (hr : meth.sig.returnType = none) (hml : c.maxLocals = 5) (hown : s.vm.findClass RX12 = some m.cls) (hts : ∀ w ∈ wzX12_readName, w.before args s = true) (hlocks : meth.locks = false) (hZ : zAMB s) (hA : ∀ q : Nat, s.heap.size ≤ q → A q) (hK : va_K (dC, dI) vwCl (rT Q) s) : ∀ (σ : RS) (x1 : Int32) (x3 : Int32) (H : Heap) (locs : List Loc) (ls : Array Slot), f_X12_readName_220 N σ x1 x3 = some R → va_P (dC, dI) vwCl (rW Q σ) H → va_D A (rW Q σ) → va_S A s.heap H locs → lv_has ls 5 [(0, .ref Q.h0), (1, .int x1), (3, .int x3)] → W p l e ({ frames := 2, cells := 0, slots := 0, locals := 120 }) s m args below meth c H locs 0 0 (MQ below (va_Qv (fun (_ : Unit) => True) (fun (_ : Unit) (t : State) => zPost dC dI A (rW Q R) (rT Q) t) A) args s 0 0 A) (F0 m 220 ls []) := by
  intro σ x1 x3 H locs ls hf hP hD hS hl
  unfold f_X12_readName_220 at hf
  refine lv_aload_n hx hb dX12_readName_220 rfl (lv_at hl 0 rfl) ?_
  refine lv_iconst (v := 5) hx hb dX12_readName_221 (by decide) ?_
  refine rP_10 hx hb hts i_X12_readName_X12 hown hK hP hD hS (hts (.fieldLink RX12 307 "StatementRules2Model" "tok" "I") k_X12_readName_fieldLink_RX12_307_SRModel_tok_I) dX12_readName_222 (fun H locs hP hD hS => ?_)
  refine lv_aload_n hx hb dX12_readName_225 rfl (lv_at hl 0 rfl) ?_
  refine lv_iload_n hx hb dX12_readName_226 rfl (lv_at hl 1 rfl) ?_
  refine lv_iconst (v := 2) hx hb dX12_readName_227 (by decide) ?_
  refine lv_icmp_ne (tgt := 235) hx hb dX12_readName_228 (by decide) (fun c31 => ?_) (fun c31 => ?_)
  ·
    replace hf := (if_neg c31).symm.trans hf
    refine lv_bipush (v := 10) hx hb dX12_readName_235 (by decide) ?_
    refine lv_aload_n hx hb dX12_readName_237 rfl (lv_at hl 0 rfl) ?_
    refine lv_aload_n hx hb dX12_readName_238 rfl (lv_at hl 0 rfl) ?_
    refine rG_11 (v := (σ.i 11)) hx hb hts i_X12_readName_X12 hown hK hP (hts (.fieldLink RX12 304 "StatementRules2Model" "from" "I") k_X12_readName_fieldLink_RX12_304_SRModel_from_I) dX12_readName_239 rfl ?_
    refine lv_iconst (v := 2) hx hb dX12_readName_242 (by decide) ?_
    refine lv_iadd hx hb dX12_readName_243 ?_
    obtain ⟨p32, hcp32, hf⟩ := hf_bind hf
    have hFc := r_free hD hS hA
    refine va_calli (va_runV (As := [.int ((σ.i 11) + 2)]) (rest := [.int 10, .ref Q.h0]) ⟨hx, hb, hml, hown, hts⟩ (c_X12_at l dC dI _ Q N (RS.setI σ 10 5) ((σ.i 11) + 2) p32 hcp32) (cwV 1 hts hX12_readName_X12_at_v300 rfl rfl rfl (by decide +kernel) ⟨Nat.le_of_ble_eq_true rfl, Nat.le_of_ble_eq_true rfl⟩) ⟨zPre.blind, va_recv hK hP (ci := 11) (q0 := 0) rfl rfl, zPre.go hZ hP hK hD⟩ rfl rfl hl.1 rfl (lv_room (Nat.le_of_ble_eq_true rfl)) dX12_readName_244 ⟨Nat.le_of_ble_eq_true rfl, Nat.le_of_ble_eq_true rfl⟩) hS (fun q _ h => hFc q h) hFc (fun r33 u9 t9 H1 locs ht hvm hw hB hz1 hk1 hS => ?_)
    obtain ⟨hP, hK1, hD1⟩ := hB
    rw [ht] at hP
    have hD := hD1.weaken (fun _ _ _ h => hFc _ h)
    generalize H1 = H at hP hS ⊢
    obtain rfl : r33 = p32.1 := hw
    refine lv_iadd hx hb dX12_readName_247 ?_
    refine lv_bipush (v := 48) hx hb dX12_readName_248 (by decide) ?_
    refine lv_isub hx hb dX12_readName_250 ?_
    refine rP_14 hx hb hts i_X12_readName_X12 hown hK hP hD hS (hts (.fieldLink RX12 314 "StatementRules2Model" "number" "I") k_X12_readName_fieldLink_RX12_314_SRModel_number_I) dX12_readName_251 (fun H locs hP hD hS => ?_)
    exact j_X12_readName_254 l dC dI Q N R hx hb hr hml hown hts hlocks hZ hA hK (RS.setI p32.2 14 ((10 + p32.1) - 48)) _ _ _ hf hP hD hS (lv_sub hl [] rfl)
  ·
    replace hf := (if_pos c31).symm.trans hf
    refine lv_iload_n hx hb dX12_readName_231 rfl (lv_at hl 2 rfl) ?_
    refine lv_goto (tgt := 251) hx hb dX12_readName_232 (by decide) ?_
    refine rP_14 hx hb hts i_X12_readName_X12 hown hK hP hD hS (hts (.fieldLink RX12 314 "StatementRules2Model" "number" "I") k_X12_readName_fieldLink_RX12_314_SRModel_number_I) dX12_readName_251 (fun H locs hP hD hS => ?_)
    exact j_X12_readName_254 l dC dI Q N R hx hb hr hml hown hts hlocks hZ hA hK (RS.setI (RS.setI σ 10 5) 14 x3) _ _ _ hf hP hD hS (lv_sub hl [] rfl)
set_option maxHeartbeats 4000000 in
set_option maxRecDepth 100000 in
theorem j_X12_readName_189 {p : Program} {e : Env} {s : State} {m : MethodId} {args : Array Value} {below : List Frame} {meth : Method} {c : Code} {A : Nat → Prop} (l : Launch) (dC : Nat → ClassId) (dI : Nat → Nat → Nat) (Q : RQ) (N : Nat) (R : RS) (hx : p.tables.exec = Jvm.exec) (hb : c.code = cX12_readName) (hr : meth.sig.returnType = none) (hml : c.maxLocals = 5) (hown : s.vm.findClass RX12 = some m.cls) (hts : ∀ w ∈ wzX12_readName, w.before args s = true) (hlocks : meth.locks = false) (hZ : zAMB s) (hA : ∀ q : Nat, s.heap.size ≤ q → A q) (hK : va_K (dC, dI) vwCl (rT Q) s) : ∀ (σ : RS) (x1 : Int32) (x3 : Int32) (H : Heap) (locs : List Loc) (ls : Array Slot), f_X12_readName_189 N σ x1 x3 = some R → va_P (dC, dI) vwCl (rW Q σ) H → va_D A (rW Q σ) → va_S A s.heap H locs → lv_has ls 5 [(0, .ref Q.h0), (1, .int x1), (3, .int x3)] → W p l e ({ frames := 2, cells := 0, slots := 0, locals := 120 }) s m args below meth c H locs 0 0 (MQ below (va_Qv (fun (_ : Unit) => True) (fun (_ : Unit) (t : State) => zPost dC dI A (rW Q R) (rT Q) t) A) args s 0 0 A) (F0 m 189 ls []) := by
  intro σ x1 x3 H locs ls hf hP hD hS hl
  unfold f_X12_readName_189 at hf
  refine lv_iload_n hx hb dX12_readName_189 rfl (lv_at hl 1 rfl) ?_
  refine lv_iconst (v := 3) hx hb dX12_readName_190 (by decide) ?_
  refine lv_icmp_ne (tgt := 257) hx hb dX12_readName_191 (by decide) (fun c24 => ?_) (fun c24 => ?_)
  ·
    replace hf := (if_neg c24).symm.trans hf
    exact j_X12_readName_257 l dC dI Q N R hx hb hr hml hown hts hlocks hZ hA hK σ _ _ _ hf hP hD hS (lv_sub hl [0] rfl)
  ·
    replace hf := (if_pos c24).symm.trans hf
    refine lv_iload_n hx hb dX12_readName_194 rfl (lv_at hl 2 rfl) ?_
    refine lv_iconst (v := 1) hx hb dX12_readName_195 (by decide) ?_
    refine lv_icmp_ne (tgt := 257) hx hb dX12_readName_196 (by decide) (fun c25 => ?_) (fun c25 => ?_)
    ·
      replace hf := (if_neg c25).symm.trans hf
      exact j_X12_readName_257 l dC dI Q N R hx hb hr hml hown hts hlocks hZ hA hK σ _ _ _ hf hP hD hS (lv_sub hl [0] rfl)
    ·
      replace hf := (if_pos c25).symm.trans hf
      refine lv_aload_n hx hb dX12_readName_199 rfl (lv_at hl 0 rfl) ?_
      refine lv_aload_n hx hb dX12_readName_200 rfl (lv_at hl 0 rfl) ?_
      refine rG_11 (v := (σ.i 11)) hx hb hts i_X12_readName_X12 hown hK hP (hts (.fieldLink RX12 304 "StatementRules2Model" "from" "I") k_X12_readName_fieldLink_RX12_304_SRModel_from_I) dX12_readName_201 rfl ?_
      refine lv_iconst (v := 2) hx hb dX12_readName_204 (by decide) ?_
      refine lv_iadd hx hb dX12_readName_205 ?_
      obtain ⟨p26, hcp26, hf⟩ := hf_bind hf
      have hFc := r_free hD hS hA
      refine va_calli (va_runV (As := [.int ((σ.i 11) + 2)]) (rest := []) ⟨hx, hb, hml, hown, hts⟩ (c_X12_at l dC dI _ Q N σ ((σ.i 11) + 2) p26 hcp26) (cwV 1 hts hX12_readName_X12_at_v300 rfl rfl rfl (by decide +kernel) ⟨Nat.le_of_ble_eq_true rfl, Nat.le_of_ble_eq_true rfl⟩) ⟨zPre.blind, va_recv hK hP (ci := 11) (q0 := 0) rfl rfl, zPre.go hZ hP hK hD⟩ rfl rfl hl.1 rfl (lv_room (Nat.le_of_ble_eq_true rfl)) dX12_readName_206 ⟨Nat.le_of_ble_eq_true rfl, Nat.le_of_ble_eq_true rfl⟩) hS (fun q _ h => hFc q h) hFc (fun r27 u9 t9 H1 locs ht hvm hw hB hz1 hk1 hS => ?_)
      obtain ⟨hP, hK1, hD1⟩ := hB
      rw [ht] at hP
      have hD := hD1.weaken (fun _ _ _ h => hFc _ h)
      generalize H1 = H at hP hS ⊢
      obtain rfl : r27 = p26.1 := hw
      refine lv_bipush (v := 48) hx hb dX12_readName_209 (by decide) ?_
      refine lv_isub hx hb dX12_readName_211 ?_
      refine lv_iconst (v := 0) hx hb dX12_readName_212 (by decide) ?_
      refine lv_iconst (v := 1) hx hb dX12_readName_213 (by decide) ?_
      obtain ⟨p28, hcp28, hf⟩ := hf_bind hf
      have hFc := r_free hD hS hA
      refine va_calli (va_runS (As := [.int (p26.1 - 48), .int 0, .int 1]) (rest := []) ⟨hx, hb, hml, hown, hts⟩ (c_X12_in l dC dI _ Q N p26.2 (p26.1 - 48) 0 1 p28 hcp28) (va_cwS 3 hts hX12_readName_X12_in_s279 rfl rfl rfl (by decide +kernel) ⟨Nat.le_of_ble_eq_true rfl, Nat.le_of_ble_eq_true rfl⟩) ⟨zPre.blind, zPre.go hZ hP hK hD⟩ rfl rfl hl.1 rfl (lv_room (Nat.le_of_ble_eq_true rfl)) dX12_readName_214 ⟨Nat.le_of_ble_eq_true rfl, Nat.le_of_ble_eq_true rfl⟩) hS (fun q _ h => hFc q h) hFc (fun r29 u9 t9 H1 locs ht hvm hw hB hz1 hk1 hS => ?_)
      obtain ⟨hP, hK1, hD1⟩ := hB
      rw [ht] at hP
      have hD := hD1.weaken (fun _ _ _ h => hFc _ h)
      generalize H1 = H at hP hS ⊢
      obtain rfl : r29 = p28.1 := hw
      refine lv_if_eq (tgt := 257) hx hb dX12_readName_217 (by decide) (fun c30 => ?_) (fun c30 => ?_)
      ·
        replace hf := (if_pos c30).symm.trans hf
        exact j_X12_readName_257 l dC dI Q N R hx hb hr hml hown hts hlocks hZ hA hK p28.2 _ _ _ hf hP hD hS (lv_sub hl [0] rfl)
      ·
        replace hf := (if_neg c30).symm.trans hf
        exact j_X12_readName_220 l dC dI Q N R hx hb hr hml hown hts hlocks hZ hA hK p28.2 x1 x3 _ _ _ hf hP hD hS (lv_sub hl [0, 1, 2] rfl)
set_option maxHeartbeats 4000000 in
set_option maxRecDepth 100000 in
theorem j_X12_readName_168 {p : Program} {e : Env} {s : State} {m : MethodId} {args : Array Value} {below : List Frame} {meth : Method} {c : Code} {A : Nat → Prop} (l : Launch) (dC : Nat → ClassId) (dI : Nat → Nat → Nat) (Q : RQ) (N : Nat) (R : RS) (hx : p.tables.exec = Jvm.exec) (hb : c.code = cX12_readName) (hr : meth.sig.returnType = none) (hml : c.maxLocals = 5) (hown : s.vm.findClass RX12 = some m.cls) (hts : ∀ w ∈ wzX12_readName, w.before args s = true) (hlocks : meth.locks = false) (hZ : zAMB s) (hA : ∀ q : Nat, s.heap.size ≤ q → A q) (hK : va_K (dC, dI) vwCl (rT Q) s) : ∀ (σ : RS) (x1 : Int32) (x2 : Int32) (x3 : Int32) (H : Heap) (locs : List Loc) (ls : Array Slot), f_X12_readName_168 N σ x1 x2 x3 = some R → va_P (dC, dI) vwCl (rW Q σ) H → va_D A (rW Q σ) → va_S A s.heap H locs → lv_has ls 5 [(0, .ref Q.h0), (1, .int x1), (2, .int x2), (3, .int x3)] → W p l e ({ frames := 2, cells := 0, slots := 0, locals := 120 }) s m args below meth c H locs 0 0 (MQ below (va_Qv (fun (_ : Unit) => True) (fun (_ : Unit) (t : State) => zPost dC dI A (rW Q R) (rT Q) t) A) args s 0 0 A) (F0 m 168 ls []) := by
  intro σ x1 x2 x3 H locs ls hf hP hD hS hl
  unfold f_X12_readName_168 at hf
  refine lv_iload_n hx hb dX12_readName_168 rfl (lv_at hl 2 rfl) ?_
  refine lv_bipush (v := 101) hx hb dX12_readName_169 (by decide) ?_
  refine lv_icmp_ne (tgt := 257) hx hb dX12_readName_171 (by decide) (fun c19 => ?_) (fun c19 => ?_)
  ·
    replace hf := (if_neg c19).symm.trans hf
    exact j_X12_readName_257 l dC dI Q N R hx hb hr hml hown hts hlocks hZ hA hK σ _ _ _ hf hP hD hS (lv_sub hl [0] rfl)
  ·
    replace hf := (if_pos c19).symm.trans hf
    refine lv_iload_n hx hb dX12_readName_174 rfl (lv_at hl 1 rfl) ?_
    refine lv_iconst (v := 2) hx hb dX12_readName_175 (by decide) ?_
    refine lv_icmp_ne (tgt := 189) hx hb dX12_readName_176 (by decide) (fun c23 => ?_) (fun c23 => ?_)
    ·
      replace hf := (if_neg c23).symm.trans hf
      exact j_X12_readName_189 l dC dI Q N R hx hb hr hml hown hts hlocks hZ hA hK σ x1 x3 _ _ _ hf hP hD hS (lv_sub hl [0, 1, 3] rfl)
    ·
      replace hf := (if_pos c23).symm.trans hf
      refine lv_iload_n hx hb dX12_readName_179 rfl (lv_at hl 3 rfl) ?_
      refine lv_iconst (v := 0) hx hb dX12_readName_180 (by decide) ?_
      refine lv_bipush (v := 9) hx hb dX12_readName_181 (by decide) ?_
      obtain ⟨p34, hcp34, hf⟩ := hf_bind hf
      have hFc := r_free hD hS hA
      refine va_calli (va_runS (As := [.int x3, .int 0, .int 9]) (rest := []) ⟨hx, hb, hml, hown, hts⟩ (c_X12_in l dC dI _ Q N σ x3 0 9 p34 hcp34) (va_cwS 3 hts hX12_readName_X12_in_s279 rfl rfl rfl (by decide +kernel) ⟨Nat.le_of_ble_eq_true rfl, Nat.le_of_ble_eq_true rfl⟩) ⟨zPre.blind, zPre.go hZ hP hK hD⟩ rfl rfl hl.1 rfl (lv_room (Nat.le_of_ble_eq_true rfl)) dX12_readName_183 ⟨Nat.le_of_ble_eq_true rfl, Nat.le_of_ble_eq_true rfl⟩) hS (fun q _ h => hFc q h) hFc (fun r35 u9 t9 H1 locs ht hvm hw hB hz1 hk1 hS => ?_)
      obtain ⟨hP, hK1, hD1⟩ := hB
      rw [ht] at hP
      have hD := hD1.weaken (fun _ _ _ h => hFc _ h)
      generalize H1 = H at hP hS ⊢
      obtain rfl : r35 = p34.1 := hw
      refine lv_if_ne (tgt := 220) hx hb dX12_readName_186 (by decide) (fun c36 => ?_) (fun c36 => ?_)
      ·
        replace hf := (if_neg c36).symm.trans hf
        exact j_X12_readName_220 l dC dI Q N R hx hb hr hml hown hts hlocks hZ hA hK p34.2 x1 x3 _ _ _ hf hP hD hS (lv_sub hl [0, 1, 3] rfl)
      ·
        replace hf := (if_pos c36).symm.trans hf
        exact j_X12_readName_189 l dC dI Q N R hx hb hr hml hown hts hlocks hZ hA hK p34.2 x1 x3 _ _ _ hf hP hD hS (lv_sub hl [0, 1, 3] rfl)
set_option maxHeartbeats 4000000 in
set_option maxRecDepth 100000 in
theorem j_X12_readName_160 {p : Program} {e : Env} {s : State} {m : MethodId} {args : Array Value} {below : List Frame} {meth : Method} {c : Code} {A : Nat → Prop} (l : Launch) (dC : Nat → ClassId) (dI : Nat → Nat → Nat) (Q : RQ) (N : Nat) (R : RS) (hx : p.tables.exec = Jvm.exec) (hb : c.code = cX12_readName) (hr : meth.sig.returnType = none) (hml : c.maxLocals = 5) (hown : s.vm.findClass RX12 = some m.cls) (hts : ∀ w ∈ wzX12_readName, w.before args s = true) (hlocks : meth.locks = false) (hZ : zAMB s) (hA : ∀ q : Nat, s.heap.size ≤ q → A q) (hK : va_K (dC, dI) vwCl (rT Q) s) : ∀ (σ : RS) (x3 : Int32) (H : Heap) (locs : List Loc) (ls : Array Slot), f_X12_readName_160 N σ x3 = some R → va_P (dC, dI) vwCl (rW Q σ) H → va_D A (rW Q σ) → va_S A s.heap H locs → lv_has ls 5 [(0, .ref Q.h0), (3, .int x3)] → W p l e ({ frames := 2, cells := 0, slots := 0, locals := 120 }) s m args below meth c H locs 0 0 (MQ below (va_Qv (fun (_ : Unit) => True) (fun (_ : Unit) (t : State) => zPost dC dI A (rW Q R) (rT Q) t) A) args s 0 0 A) (F0 m 160 ls []) := by
  intro σ x3 H locs ls hf hP hD hS hl
  unfold f_X12_readName_160 at hf
  refine lv_aload_n hx hb dX12_readName_160 rfl (lv_at hl 0 rfl) ?_
  refine lv_iload_n hx hb dX12_readName_161 rfl (lv_at hl 1 rfl) ?_
  refine rP_14 hx hb hts i_X12_readName_X12 hown hK hP hD hS (hts (.fieldLink RX12 314 "StatementRules2Model" "number" "I") k_X12_readName_fieldLink_RX12_314_SRModel_number_I) dX12_readName_162 (fun H locs hP hD hS => ?_)
  refine lv_goto (tgt := 305) hx hb dX12_readName_165 (by decide) ?_
  obtain rfl := Option.some.inj hf
  exact W.vret hx hb hr (fun t ht hW => ⟨⟨(), rfl, trivial, by rw [ht]; exact hP, va_K.moved hW.alike hK, hD⟩, hS.F ht⟩) hS.2.2 dX12_readName_305
set_option maxHeartbeats 4000000 in
set_option maxRecDepth 100000 in
theorem j_X12_readName_135 {p : Program} {e : Env} {s : State} {m : MethodId} {args : Array Value} {below : List Frame} {meth : Method} {c : Code} {A : Nat → Prop} (l : Launch) (dC : Nat → ClassId) (dI : Nat → Nat → Nat) (Q : RQ) (N : Nat) (R : RS) (hx : p.tables.exec = Jvm.exec) (hb : c.code = cX12_readName) (hr : meth.sig.returnType = none) (hml : c.maxLocals = 5) (hown : s.vm.findClass RX12 = some m.cls) (hts : ∀ w ∈ wzX12_readName, w.before args s = true) (hlocks : meth.locks = false) (hZ : zAMB s) (hA : ∀ q : Nat, s.heap.size ≤ q → A q) (hK : va_K (dC, dI) vwCl (rT Q) s) : ∀ (σ : RS) (x1 : Int32) (x2 : Int32) (x3 : Int32) (H : Heap) (locs : List Loc) (ls : Array Slot), f_X12_readName_135 N σ x1 x2 x3 = some R → va_P (dC, dI) vwCl (rW Q σ) H → va_D A (rW Q σ) → va_S A s.heap H locs → lv_has ls 5 [(0, .ref Q.h0), (1, .int x1), (2, .int x2), (3, .int x3)] → W p l e ({ frames := 2, cells := 0, slots := 0, locals := 120 }) s m args below meth c H locs 0 0 (MQ below (va_Qv (fun (_ : Unit) => True) (fun (_ : Unit) (t : State) => zPost dC dI A (rW Q R) (rT Q) t) A) args s 0 0 A) (F0 m 135 ls []) := by
  intro σ x1 x2 x3 H locs ls hf hP hD hS hl
  unfold f_X12_readName_135 at hf
  refine lv_iload_n hx hb dX12_readName_135 rfl (lv_at hl 3 rfl) ?_
  refine lv_iconst (v := 0) hx hb dX12_readName_136 (by decide) ?_
  refine lv_bipush (v := 7) hx hb dX12_readName_137 (by decide) ?_
  obtain ⟨p38, hcp38, hf⟩ := hf_bind hf
  have hFc := r_free hD hS hA
  refine va_calli (va_runS (As := [.int x3, .int 0, .int 7]) (rest := []) ⟨hx, hb, hml, hown, hts⟩ (c_X12_in l dC dI _ Q N σ x3 0 7 p38 hcp38) (va_cwS 3 hts hX12_readName_X12_in_s279 rfl rfl rfl (by decide +kernel) ⟨Nat.le_of_ble_eq_true rfl, Nat.le_of_ble_eq_true rfl⟩) ⟨zPre.blind, zPre.go hZ hP hK hD⟩ rfl rfl hl.1 rfl (lv_room (Nat.le_of_ble_eq_true rfl)) dX12_readName_139 ⟨Nat.le_of_ble_eq_true rfl, Nat.le_of_ble_eq_true rfl⟩) hS (fun q _ h => hFc q h) hFc (fun r39 u9 t9 H1 locs ht hvm hw hB hz1 hk1 hS => ?_)
  obtain ⟨hP, hK1, hD1⟩ := hB
  rw [ht] at hP
  have hD := hD1.weaken (fun _ _ _ h => hFc _ h)
  generalize H1 = H at hP hS ⊢
  obtain rfl : r39 = p38.1 := hw
  refine lv_if_eq (tgt := 168) hx hb dX12_readName_142 (by decide) (fun c40 => ?_) (fun c40 => ?_)
  ·
    replace hf := (if_pos c40).symm.trans hf
    exact j_X12_readName_168 l dC dI Q N R hx hb hr hml hown hts hlocks hZ hA hK p38.2 x1 x2 x3 _ _ _ hf hP hD hS (lv_sub hl [0, 1, 2, 3] rfl)
  ·
    replace hf := (if_neg c40).symm.trans hf
    refine lv_aload_n hx hb dX12_readName_145 rfl (lv_at hl 0 rfl) ?_
    refine lv_iload_n hx hb dX12_readName_146 rfl (lv_at hl 2 rfl) ?_
    refine lv_bipush (v := 109) hx hb dX12_readName_147 (by decide) ?_
    refine lv_icmp_ne (tgt := 156) hx hb dX12_readName_149 (by decide) (fun c41 => ?_) (fun c41 => ?_)
    ·
      replace hf := (if_neg c41).symm.trans hf
      refine lv_iconst (v := 4) hx hb dX12_readName_156 (by decide) ?_
      refine rP_10 hx hb hts i_X12_readName_X12 hown hK hP hD hS (hts (.fieldLink RX12 307 "StatementRules2Model" "tok" "I") k_X12_readName_fieldLink_RX12_307_SRModel_tok_I) dX12_readName_157 (fun H locs hP hD hS => ?_)
      exact j_X12_readName_160 l dC dI Q N R hx hb hr hml hown hts hlocks hZ hA hK (RS.setI p38.2 10 4) x3 _ _ _ hf hP hD hS (lv_sub hl [0, 3] rfl)
    ·
      replace hf := (if_pos c41).symm.trans hf
      refine lv_iconst (v := 3) hx hb dX12_readName_152 (by decide) ?_
      refine lv_goto (tgt := 157) hx hb dX12_readName_153 (by decide) ?_
      refine rP_10 hx hb hts i_X12_readName_X12 hown hK hP hD hS (hts (.fieldLink RX12 307 "StatementRules2Model" "tok" "I") k_X12_readName_fieldLink_RX12_307_SRModel_tok_I) dX12_readName_157 (fun H locs hP hD hS => ?_)
      exact j_X12_readName_160 l dC dI Q N R hx hb hr hml hown hts hlocks hZ hA hK (RS.setI p38.2 10 3) x3 _ _ _ hf hP hD hS (lv_sub hl [0, 3] rfl)
set_option maxHeartbeats 4000000 in
set_option maxRecDepth 100000 in
theorem j_X12_readName_5 {p : Program} {e : Env} {s : State} {m : MethodId} {args : Array Value} {below : List Frame} {meth : Method} {c : Code} {A : Nat → Prop} (l : Launch) (dC : Nat → ClassId) (dI : Nat → Nat → Nat) (Q : RQ) (N : Nat) (R : RS) (hx : p.tables.exec = Jvm.exec) (hb : c.code = cX12_readName) (hr : meth.sig.returnType = none) (hml : c.maxLocals = 5) (hown : s.vm.findClass RX12 = some m.cls) (hts : ∀ w ∈ wzX12_readName, w.before args s = true) (hlocks : meth.locks = false) (hZ : zAMB s) (hA : ∀ q : Nat, s.heap.size ≤ q → A q) (hK : va_K (dC, dI) vwCl (rT Q) s) : ∀ (n9 : Nat), ∀ (σ : RS) (H : Heap) (locs : List Loc) (ls : Array Slot), f_X12_readName_5 N n9 σ = some R → va_P (dC, dI) vwCl (rW Q σ) H → va_D A (rW Q σ) → va_S A s.heap H locs → lv_has ls 5 [(0, .ref Q.h0)] → W p l e ({ frames := 2, cells := 0, slots := 0, locals := 120 }) s m args below meth c H locs 0 0 (MQ below (va_Qv (fun (_ : Unit) => True) (fun (_ : Unit) (t : State) => zPost dC dI A (rW Q R) (rT Q) t) A) args s 0 0 A) (F0 m 5 ls []) := by
  intro n9
  induction n9 with
  | zero => intro σ  H locs ls hf; exact absurd hf (by intro h9; cases h9)
  | succ n9 ih =>
    intro σ  H locs ls hf hP hD hS hl
    replace hf : b_X12_readName_5 N (f_X12_readName_5 N n9) σ  = some R := hf
    unfold b_X12_readName_5 at hf
    refine lv_aload_n hx hb dX12_readName_5 rfl (lv_at hl 0 rfl) ?_
    refine lv_aload_n hx hb dX12_readName_6 rfl (lv_at hl 0 rfl) ?_
    refine rG_12 (v := (σ.i 12)) hx hb hts i_X12_readName_X12 hown hK hP (hts (.fieldLink RX12 297 "StatementRules2Model" "to" "I") k_X12_readName_fieldLink_RX12_297_SRModel_to_I) dX12_readName_7 rfl ?_
    obtain ⟨p1, hcp1, hf⟩ := hf_bind hf
    have hFc := r_free hD hS hA
    refine va_calli (va_runV (As := [.int (σ.i 12)]) (rest := []) ⟨hx, hb, hml, hown, hts⟩ (c_X12_at l dC dI _ Q N σ (σ.i 12) p1 hcp1) (cwV 1 hts hX12_readName_X12_at_v300 rfl rfl rfl (by decide +kernel) ⟨Nat.le_of_ble_eq_true rfl, Nat.le_of_ble_eq_true rfl⟩) ⟨zPre.blind, va_recv hK hP (ci := 11) (q0 := 0) rfl rfl, zPre.go hZ hP hK hD⟩ rfl rfl hl.1 rfl (lv_room (Nat.le_of_ble_eq_true rfl)) dX12_readName_10 ⟨Nat.le_of_ble_eq_true rfl, Nat.le_of_ble_eq_true rfl⟩) hS (fun q _ h => hFc q h) hFc (fun r2 u9 t9 H1 locs ht hvm hw hB hz1 hk1 hS => ?_)
    obtain ⟨hP, hK1, hD1⟩ := hB
    rw [ht] at hP
    have hD := hD1.weaken (fun _ _ _ h => hFc _ h)
    generalize H1 = H at hP hS ⊢
    obtain rfl : r2 = p1.1 := hw
    obtain ⟨p3, hcp3, hf⟩ := hf_bind hf
    have hFc := r_free hD hS hA
    refine va_calli (va_runS (As := [.int p1.1]) (rest := []) ⟨hx, hb, hml, hown, hts⟩ (c_X12_isLetter l dC dI _ Q N p1.2 p1.1 p3 hcp3) (va_cwS 1 hts hX12_readName_X12_isLetter_s317 rfl rfl rfl (by decide +kernel) ⟨Nat.le_of_ble_eq_true rfl, Nat.le_of_ble_eq_true rfl⟩) ⟨zPre.blind, zPre.go hZ hP hK hD⟩ rfl rfl hl.1 rfl (lv_room (Nat.le_of_ble_eq_true rfl)) dX12_readName_13 ⟨Nat.le_of_ble_eq_true rfl, Nat.le_of_ble_eq_true rfl⟩) hS (fun q _ h => hFc q h) hFc (fun r4 u9 t9 H1 locs ht hvm hw hB hz1 hk1 hS => ?_)
    obtain ⟨hP, hK1, hD1⟩ := hB
    rw [ht] at hP
    have hD := hD1.weaken (fun _ _ _ h => hFc _ h)
    generalize H1 = H at hP hS ⊢
    obtain rfl : r4 = p3.1 := hw
    refine lv_if_ne (tgt := 33) hx hb dX12_readName_16 (by decide) (fun c5 => ?_) (fun c5 => ?_)
    ·
      replace hf := (if_neg c5).symm.trans hf
      refine lv_aload_n hx hb dX12_readName_33 rfl (lv_at hl 0 rfl) ?_
      refine lv_aload_n hx hb dX12_readName_34 rfl (lv_at hl 0 rfl) ?_
      refine rG_13 (v := p3.2.l) hx hb hts i_X12_readName_X12 hown hK hP (hts (.fieldLink RX12 327 "StatementRules2Model" "name" "J") k_X12_readName_fieldLink_RX12_327_SRModel_name_J) dX12_readName_35 rfl ?_
      refine lv_bipush (v := 8) hx hb dX12_readName_38 (by decide) ?_
      refine lv_lshl (v := (p3.2.l <<< ((8 : Int32).toInt64 &&& 63))) hx hb dX12_readName_40 rfl ?_
      refine lv_aload_n hx hb dX12_readName_41 rfl (lv_at hl 0 rfl) ?_
      refine lv_aload_n hx hb dX12_readName_42 rfl (lv_at hl 0 rfl) ?_
      refine rG_12 (v := (p3.2.i 12)) hx hb hts i_X12_readName_X12 hown hK hP (hts (.fieldLink RX12 297 "StatementRules2Model" "to" "I") k_X12_readName_fieldLink_RX12_297_SRModel_to_I) dX12_readName_43 rfl ?_
      obtain ⟨p6, hcp6, hf⟩ := hf_bind hf
      have hFc := r_free hD hS hA
      refine va_calli (va_runV (As := [.int (p3.2.i 12)]) (rest := [.long (p3.2.l <<< ((8 : Int32).toInt64 &&& 63)), .ref Q.h0]) ⟨hx, hb, hml, hown, hts⟩ (c_X12_at l dC dI _ Q N p3.2 (p3.2.i 12) p6 hcp6) (cwV 1 hts hX12_readName_X12_at_v300 rfl rfl rfl (by decide +kernel) ⟨Nat.le_of_ble_eq_true rfl, Nat.le_of_ble_eq_true rfl⟩) ⟨zPre.blind, va_recv hK hP (ci := 11) (q0 := 0) rfl rfl, zPre.go hZ hP hK hD⟩ rfl rfl hl.1 rfl (lv_room (Nat.le_of_ble_eq_true rfl)) dX12_readName_46 ⟨Nat.le_of_ble_eq_true rfl, Nat.le_of_ble_eq_true rfl⟩) hS (fun q _ h => hFc q h) hFc (fun r7 u9 t9 H1 locs ht hvm hw hB hz1 hk1 hS => ?_)
      obtain ⟨hP, hK1, hD1⟩ := hB
      rw [ht] at hP
      have hD := hD1.weaken (fun _ _ _ h => hFc _ h)
      generalize H1 = H at hP hS ⊢
      obtain rfl : r7 = p6.1 := hw
      refine lv_i2l (v := (p6.1 : Int32).toInt64) hx hb dX12_readName_49 rfl ?_
      refine lv_lor hx hb dX12_readName_50 ?_
      refine rP_13 hx hb hts i_X12_readName_X12 hown hK hP hD hS (hts (.fieldLink RX12 327 "StatementRules2Model" "name" "J") k_X12_readName_fieldLink_RX12_327_SRModel_name_J) dX12_readName_51 (fun H locs hP hD hS => ?_)
      refine lv_aload_n hx hb dX12_readName_54 rfl (lv_at hl 0 rfl) ?_
      refine lv_dup hx hb dX12_readName_55 rfl ?_
      refine rG_12 (v := (p6.2.i 12)) hx hb hts i_X12_readName_X12 hown hK hP (hts (.fieldLink RX12 297 "StatementRules2Model" "to" "I") k_X12_readName_fieldLink_RX12_297_SRModel_to_I) dX12_readName_56 rfl ?_
      refine lv_iconst (v := 1) hx hb dX12_readName_59 (by decide) ?_
      refine lv_iadd hx hb dX12_readName_60 ?_
      refine rP_12 hx hb hts i_X12_readName_X12 hown hK hP hD hS (hts (.fieldLink RX12 297 "StatementRules2Model" "to" "I") k_X12_readName_fieldLink_RX12_297_SRModel_to_I) dX12_readName_61 (fun H locs hP hD hS => ?_)
      refine lv_goto (tgt := 5) hx hb dX12_readName_64 (by decide) ?_
      exact ih (RS.setI (RS.setL p6.2 ((p3.2.l <<< ((8 : Int32).toInt64 &&& 63)) ||| (p6.1 : Int32).toInt64)) 12 ((p6.2.i 12) + 1)) _ _ _ hf hP hD hS (lv_sub hl [0] rfl)
    ·
      replace hf := (if_pos c5).symm.trans hf
      refine lv_aload_n hx hb dX12_readName_19 rfl (lv_at hl 0 rfl) ?_
      refine lv_aload_n hx hb dX12_readName_20 rfl (lv_at hl 0 rfl) ?_
      refine rG_12 (v := (p3.2.i 12)) hx hb hts i_X12_readName_X12 hown hK hP (hts (.fieldLink RX12 297 "StatementRules2Model" "to" "I") k_X12_readName_fieldLink_RX12_297_SRModel_to_I) dX12_readName_21 rfl ?_
      obtain ⟨p8, hcp8, hf⟩ := hf_bind hf
      have hFc := r_free hD hS hA
      refine va_calli (va_runV (As := [.int (p3.2.i 12)]) (rest := []) ⟨hx, hb, hml, hown, hts⟩ (c_X12_at l dC dI _ Q N p3.2 (p3.2.i 12) p8 hcp8) (cwV 1 hts hX12_readName_X12_at_v300 rfl rfl rfl (by decide +kernel) ⟨Nat.le_of_ble_eq_true rfl, Nat.le_of_ble_eq_true rfl⟩) ⟨zPre.blind, va_recv hK hP (ci := 11) (q0 := 0) rfl rfl, zPre.go hZ hP hK hD⟩ rfl rfl hl.1 rfl (lv_room (Nat.le_of_ble_eq_true rfl)) dX12_readName_24 ⟨Nat.le_of_ble_eq_true rfl, Nat.le_of_ble_eq_true rfl⟩) hS (fun q _ h => hFc q h) hFc (fun r9 u9 t9 H1 locs ht hvm hw hB hz1 hk1 hS => ?_)
      obtain ⟨hP, hK1, hD1⟩ := hB
      rw [ht] at hP
      have hD := hD1.weaken (fun _ _ _ h => hFc _ h)
      generalize H1 = H at hP hS ⊢
      obtain rfl : r9 = p8.1 := hw
      obtain ⟨p10, hcp10, hf⟩ := hf_bind hf
      have hFc := r_free hD hS hA
      refine va_calli (va_runS (As := [.int p8.1]) (rest := []) ⟨hx, hb, hml, hown, hts⟩ (c_X12_isDigit l dC dI _ Q N p8.2 p8.1 p10 hcp10) (va_cwS 1 hts hX12_readName_X12_isDigit_s310 rfl rfl rfl (by decide +kernel) ⟨Nat.le_of_ble_eq_true rfl, Nat.le_of_ble_eq_true rfl⟩) ⟨zPre.blind, zPre.go hZ hP hK hD⟩ rfl rfl hl.1 rfl (lv_room (Nat.le_of_ble_eq_true rfl)) dX12_readName_27 ⟨Nat.le_of_ble_eq_true rfl, Nat.le_of_ble_eq_true rfl⟩) hS (fun q _ h => hFc q h) hFc (fun r11 u9 t9 H1 locs ht hvm hw hB hz1 hk1 hS => ?_)
      obtain ⟨hP, hK1, hD1⟩ := hB
      rw [ht] at hP
      have hD := hD1.weaken (fun _ _ _ h => hFc _ h)
      generalize H1 = H at hP hS ⊢
      obtain rfl : r11 = p10.1 := hw
      refine lv_if_eq (tgt := 67) hx hb dX12_readName_30 (by decide) (fun c12 => ?_) (fun c12 => ?_)
      ·
        replace hf := (if_pos c12).symm.trans hf
        refine lv_aload_n hx hb dX12_readName_67 rfl (lv_at hl 0 rfl) ?_
        refine rG_12 (v := (p10.2.i 12)) hx hb hts i_X12_readName_X12 hown hK hP (hts (.fieldLink RX12 297 "StatementRules2Model" "to" "I") k_X12_readName_fieldLink_RX12_297_SRModel_to_I) dX12_readName_68 rfl ?_
        refine lv_aload_n hx hb dX12_readName_71 rfl (lv_at hl 0 rfl) ?_
        refine rG_11 (v := (p10.2.i 11)) hx hb hts i_X12_readName_X12 hown hK hP (hts (.fieldLink RX12 304 "StatementRules2Model" "from" "I") k_X12_readName_fieldLink_RX12_304_SRModel_from_I) dX12_readName_72 rfl ?_
        refine lv_isub hx hb dX12_readName_75 ?_
        refine lv_istore_n (lv' := [(1, .int ((p10.2.i 12) - (p10.2.i 11))), (0, .ref Q.h0)]) hx hb dX12_readName_76 rfl hl (by decide) rfl (fun ls hl => ?_)
        refine lv_iload_n hx hb dX12_readName_77 rfl (lv_at hl 0 rfl) ?_
        refine lv_bipush (v := 8) hx hb dX12_readName_78 (by decide) ?_
        refine lv_icmp_le (tgt := 90) hx hb dX12_readName_80 (by decide) (fun c13 => ?_) (fun c13 => ?_)
        ·
          replace hf := (if_pos c13).symm.trans hf
          refine lv_aload_n hx hb dX12_readName_90 rfl (lv_at hl 1 rfl) ?_
          refine lv_aload_n hx hb dX12_readName_91 rfl (lv_at hl 1 rfl) ?_
          refine rG_11 (v := (p10.2.i 11)) hx hb hts i_X12_readName_X12 hown hK hP (hts (.fieldLink RX12 304 "StatementRules2Model" "from" "I") k_X12_readName_fieldLink_RX12_304_SRModel_from_I) dX12_readName_92 rfl ?_
          obtain ⟨p14, hcp14, hf⟩ := hf_bind hf
          have hFc := r_free hD hS hA
          refine va_calli (va_runV (As := [.int (p10.2.i 11)]) (rest := []) ⟨hx, hb, hml, hown, hts⟩ (c_X12_at l dC dI _ Q N p10.2 (p10.2.i 11) p14 hcp14) (cwV 1 hts hX12_readName_X12_at_v300 rfl rfl rfl (by decide +kernel) ⟨Nat.le_of_ble_eq_true rfl, Nat.le_of_ble_eq_true rfl⟩) ⟨zPre.blind, va_recv hK hP (ci := 11) (q0 := 0) rfl rfl, zPre.go hZ hP hK hD⟩ rfl rfl hl.1 rfl (lv_room (Nat.le_of_ble_eq_true rfl)) dX12_readName_95 ⟨Nat.le_of_ble_eq_true rfl, Nat.le_of_ble_eq_true rfl⟩) hS (fun q _ h => hFc q h) hFc (fun r15 u9 t9 H1 locs ht hvm hw hB hz1 hk1 hS => ?_)
          obtain ⟨hP, hK1, hD1⟩ := hB
          rw [ht] at hP
          have hD := hD1.weaken (fun _ _ _ h => hFc _ h)
          generalize H1 = H at hP hS ⊢
          obtain rfl : r15 = p14.1 := hw
          refine lv_istore_n (lv' := [(2, .int p14.1), (1, .int ((p10.2.i 12) - (p10.2.i 11))), (0, .ref Q.h0)]) hx hb dX12_readName_98 rfl hl (by decide) rfl (fun ls hl => ?_)
          refine lv_aload_n hx hb dX12_readName_99 rfl (lv_at hl 2 rfl) ?_
          refine lv_aload_n hx hb dX12_readName_100 rfl (lv_at hl 2 rfl) ?_
          refine rG_11 (v := (p14.2.i 11)) hx hb hts i_X12_readName_X12 hown hK hP (hts (.fieldLink RX12 304 "StatementRules2Model" "from" "I") k_X12_readName_fieldLink_RX12_304_SRModel_from_I) dX12_readName_101 rfl ?_
          refine lv_iconst (v := 1) hx hb dX12_readName_104 (by decide) ?_
          refine lv_iadd hx hb dX12_readName_105 ?_
          obtain ⟨p16, hcp16, hf⟩ := hf_bind hf
          have hFc := r_free hD hS hA
          refine va_calli (va_runV (As := [.int ((p14.2.i 11) + 1)]) (rest := []) ⟨hx, hb, hml, hown, hts⟩ (c_X12_at l dC dI _ Q N p14.2 ((p14.2.i 11) + 1) p16 hcp16) (cwV 1 hts hX12_readName_X12_at_v300 rfl rfl rfl (by decide +kernel) ⟨Nat.le_of_ble_eq_true rfl, Nat.le_of_ble_eq_true rfl⟩) ⟨zPre.blind, va_recv hK hP (ci := 11) (q0 := 0) rfl rfl, zPre.go hZ hP hK hD⟩ rfl rfl hl.1 rfl (lv_room (Nat.le_of_ble_eq_true rfl)) dX12_readName_106 ⟨Nat.le_of_ble_eq_true rfl, Nat.le_of_ble_eq_true rfl⟩) hS (fun q _ h => hFc q h) hFc (fun r17 u9 t9 H1 locs ht hvm hw hB hz1 hk1 hS => ?_)
          obtain ⟨hP, hK1, hD1⟩ := hB
          rw [ht] at hP
          have hD := hD1.weaken (fun _ _ _ h => hFc _ h)
          generalize H1 = H at hP hS ⊢
          obtain rfl : r17 = p16.1 := hw
          refine lv_bipush (v := 48) hx hb dX12_readName_109 (by decide) ?_
          refine lv_isub hx hb dX12_readName_111 ?_
          refine lv_istore_n (lv' := [(3, .int (p16.1 - 48)), (2, .int p14.1), (1, .int ((p10.2.i 12) - (p10.2.i 11))), (0, .ref Q.h0)]) hx hb dX12_readName_112 rfl hl (by decide) rfl (fun ls hl => ?_)
          refine lv_aload_n hx hb dX12_readName_113 rfl (lv_at hl 3 rfl) ?_
          refine lv_iconst (v := 2) hx hb dX12_readName_114 (by decide) ?_
          refine rP_10 hx hb hts i_X12_readName_X12 hown hK hP hD hS (hts (.fieldLink RX12 307 "StatementRules2Model" "tok" "I") k_X12_readName_fieldLink_RX12_307_SRModel_tok_I) dX12_readName_115 (fun H locs hP hD hS => ?_)
          refine lv_iload_n hx hb dX12_readName_118 rfl (lv_at hl 2 rfl) ?_
          refine lv_iconst (v := 2) hx hb dX12_readName_119 (by decide) ?_
          refine lv_icmp_ne (tgt := 168) hx hb dX12_readName_120 (by decide) (fun c18 => ?_) (fun c18 => ?_)
          ·
            replace hf := (if_neg c18).symm.trans hf
            exact j_X12_readName_168 l dC dI Q N R hx hb hr hml hown hts hlocks hZ hA hK (RS.setI p16.2 10 2) ((p10.2.i 12) - (p10.2.i 11)) p14.1 (p16.1 - 48) _ _ _ hf hP hD hS (lv_sub hl [3, 2, 1, 0] rfl)
          ·
            replace hf := (if_pos c18).symm.trans hf
            refine lv_iload_n hx hb dX12_readName_123 rfl (lv_at hl 1 rfl) ?_
            refine lv_bipush (v := 109) hx hb dX12_readName_124 (by decide) ?_
            refine lv_icmp_eq (tgt := 135) hx hb dX12_readName_126 (by decide) (fun c37 => ?_) (fun c37 => ?_)
            ·
              replace hf := (if_pos c37).symm.trans hf
              exact j_X12_readName_135 l dC dI Q N R hx hb hr hml hown hts hlocks hZ hA hK (RS.setI p16.2 10 2) ((p10.2.i 12) - (p10.2.i 11)) p14.1 (p16.1 - 48) _ _ _ hf hP hD hS (lv_sub hl [3, 2, 1, 0] rfl)
            ·
              replace hf := (if_neg c37).symm.trans hf
              refine lv_iload_n hx hb dX12_readName_129 rfl (lv_at hl 1 rfl) ?_
              refine lv_bipush (v := 114) hx hb dX12_readName_130 (by decide) ?_
              refine lv_icmp_ne (tgt := 168) hx hb dX12_readName_132 (by decide) (fun c42 => ?_) (fun c42 => ?_)
              ·
                replace hf := (if_neg c42).symm.trans hf
                exact j_X12_readName_168 l dC dI Q N R hx hb hr hml hown hts hlocks hZ hA hK (RS.setI p16.2 10 2) ((p10.2.i 12) - (p10.2.i 11)) p14.1 (p16.1 - 48) _ _ _ hf hP hD hS (lv_sub hl [3, 2, 1, 0] rfl)
              ·
                replace hf := (if_pos c42).symm.trans hf
                exact j_X12_readName_135 l dC dI Q N R hx hb hr hml hown hts hlocks hZ hA hK (RS.setI p16.2 10 2) ((p10.2.i 12) - (p10.2.i 11)) p14.1 (p16.1 - 48) _ _ _ hf hP hD hS (lv_sub hl [3, 2, 1, 0] rfl)
        ·
          replace hf := (if_neg c13).symm.trans hf
          refine lv_aload_n hx hb dX12_readName_83 rfl (lv_at hl 1 rfl) ?_
          refine lv_bipush (v := 6) hx hb dX12_readName_84 (by decide) ?_
          refine rP_10 hx hb hts i_X12_readName_X12 hown hK hP hD hS (hts (.fieldLink RX12 307 "StatementRules2Model" "tok" "I") k_X12_readName_fieldLink_RX12_307_SRModel_tok_I) dX12_readName_86 (fun H locs hP hD hS => ?_)
          obtain rfl := Option.some.inj hf
          exact W.vret hx hb hr (fun t ht hW => ⟨⟨(), rfl, trivial, by rw [ht]; exact hP, va_K.moved hW.alike hK, hD⟩, hS.F ht⟩) hS.2.2 dX12_readName_89
      ·
        replace hf := (if_neg c12).symm.trans hf
        refine lv_aload_n hx hb dX12_readName_33 rfl (lv_at hl 0 rfl) ?_
        refine lv_aload_n hx hb dX12_readName_34 rfl (lv_at hl 0 rfl) ?_
        refine rG_13 (v := p10.2.l) hx hb hts i_X12_readName_X12 hown hK hP (hts (.fieldLink RX12 327 "StatementRules2Model" "name" "J") k_X12_readName_fieldLink_RX12_327_SRModel_name_J) dX12_readName_35 rfl ?_
        refine lv_bipush (v := 8) hx hb dX12_readName_38 (by decide) ?_
        refine lv_lshl (v := (p10.2.l <<< ((8 : Int32).toInt64 &&& 63))) hx hb dX12_readName_40 rfl ?_
        refine lv_aload_n hx hb dX12_readName_41 rfl (lv_at hl 0 rfl) ?_
        refine lv_aload_n hx hb dX12_readName_42 rfl (lv_at hl 0 rfl) ?_
        refine rG_12 (v := (p10.2.i 12)) hx hb hts i_X12_readName_X12 hown hK hP (hts (.fieldLink RX12 297 "StatementRules2Model" "to" "I") k_X12_readName_fieldLink_RX12_297_SRModel_to_I) dX12_readName_43 rfl ?_
        obtain ⟨p43, hcp43, hf⟩ := hf_bind hf
        have hFc := r_free hD hS hA
        refine va_calli (va_runV (As := [.int (p10.2.i 12)]) (rest := [.long (p10.2.l <<< ((8 : Int32).toInt64 &&& 63)), .ref Q.h0]) ⟨hx, hb, hml, hown, hts⟩ (c_X12_at l dC dI _ Q N p10.2 (p10.2.i 12) p43 hcp43) (cwV 1 hts hX12_readName_X12_at_v300 rfl rfl rfl (by decide +kernel) ⟨Nat.le_of_ble_eq_true rfl, Nat.le_of_ble_eq_true rfl⟩) ⟨zPre.blind, va_recv hK hP (ci := 11) (q0 := 0) rfl rfl, zPre.go hZ hP hK hD⟩ rfl rfl hl.1 rfl (lv_room (Nat.le_of_ble_eq_true rfl)) dX12_readName_46 ⟨Nat.le_of_ble_eq_true rfl, Nat.le_of_ble_eq_true rfl⟩) hS (fun q _ h => hFc q h) hFc (fun r44 u9 t9 H1 locs ht hvm hw hB hz1 hk1 hS => ?_)
        obtain ⟨hP, hK1, hD1⟩ := hB
        rw [ht] at hP
        have hD := hD1.weaken (fun _ _ _ h => hFc _ h)
        generalize H1 = H at hP hS ⊢
        obtain rfl : r44 = p43.1 := hw
        refine lv_i2l (v := (p43.1 : Int32).toInt64) hx hb dX12_readName_49 rfl ?_
        refine lv_lor hx hb dX12_readName_50 ?_
        refine rP_13 hx hb hts i_X12_readName_X12 hown hK hP hD hS (hts (.fieldLink RX12 327 "StatementRules2Model" "name" "J") k_X12_readName_fieldLink_RX12_327_SRModel_name_J) dX12_readName_51 (fun H locs hP hD hS => ?_)
        refine lv_aload_n hx hb dX12_readName_54 rfl (lv_at hl 0 rfl) ?_
        refine lv_dup hx hb dX12_readName_55 rfl ?_
        refine rG_12 (v := (p43.2.i 12)) hx hb hts i_X12_readName_X12 hown hK hP (hts (.fieldLink RX12 297 "StatementRules2Model" "to" "I") k_X12_readName_fieldLink_RX12_297_SRModel_to_I) dX12_readName_56 rfl ?_
        refine lv_iconst (v := 1) hx hb dX12_readName_59 (by decide) ?_
        refine lv_iadd hx hb dX12_readName_60 ?_
        refine rP_12 hx hb hts i_X12_readName_X12 hown hK hP hD hS (hts (.fieldLink RX12 297 "StatementRules2Model" "to" "I") k_X12_readName_fieldLink_RX12_297_SRModel_to_I) dX12_readName_61 (fun H locs hP hD hS => ?_)
        refine lv_goto (tgt := 5) hx hb dX12_readName_64 (by decide) ?_
        exact ih (RS.setI (RS.setL p43.2 ((p10.2.l <<< ((8 : Int32).toInt64 &&& 63)) ||| (p43.1 : Int32).toInt64)) 12 ((p43.2.i 12) + 1)) _ _ _ hf hP hD hS (lv_sub hl [0] rfl)
set_option maxHeartbeats 4000000 in
set_option maxRecDepth 100000 in
theorem c_X12_readName (l : Launch) (dC : Nat → ClassId) (dI : Nat → Nat → Nat) (sz : Nat) (Q : RQ) (N : Nat) (σ : RS) (R : RS) (hf : f_X12_readName N σ = some R) : Met l yX12_readName wzX12_readName ({ frames := 2, cells := 0, slots := 0, locals := 120 }) (va_Pc [.ref Q.h0] (zPre dC dI sz (rW Q σ) (rT Q))) (va_Qv (fun (_ : Unit) => True) (fun (_ : Unit) (t : State) => zPost dC dI (va_A (rW Q σ) sz) (rW Q R) (rT Q) t) (va_A (rW Q σ) sz)) 0 0 (va_A (rW Q σ) sz) := by
  refine Met.ofW (cc := cX12_readName) (maxL := 5) (ret := none) (by decide) rfl ?_
  intro p e s m args below meth c s₁ B hml hv
  obtain ⟨rfl, hsz, hZ, hP, hK, hD0⟩ := hv
  have hx := B.exec
  have hb := B.bytes
  have hr := B.returns
  have hts := atoms_spec (ws := wzX12_readName) B.pre
  have hown : s.vm.findClass RX12 = some m.cls := findClass_of_methodNamed B.named
  have hlocks := B.notSynchronized
  subst hsz
  have hD := hD0.self (sz := s.heap.size)
  generalize hAe : va_A (rW Q σ) s.heap.size = A at hD ⊢
  have hA : ∀ q : Nat, s.heap.size ≤ q → A q := fun q h => by rw [← hAe]; exact Or.inr h
  have hS : va_S A s.heap s.heap [] := va_S.rf
  have hl := lv_entry ([.ref Q.h0]) (n := 5) (Nat.le_of_ble_eq_true rfl)
  rw [lg_entry_eq]
  generalize (lg_sl ([.ref Q.h0]) ++ List.replicate (5 - (lg_sl ([.ref Q.h0])).length) Slot.unset).toArray = ls at hl ⊢
  have hl : lv_has ls 5 [(0, .ref Q.h0)] := hl
  unfold f_X12_readName at hf
  refine lv_aload_n hx hb dX12_readName_0 rfl (lv_at hl 0 rfl) ?_
  refine lv_lconst (v := 0) hx hb dX12_readName_1 (by decide) ?_
  refine rP_13 hx hb hts i_X12_readName_X12 hown hK hP hD hS (hts (.fieldLink RX12 327 "StatementRules2Model" "name" "J") k_X12_readName_fieldLink_RX12_327_SRModel_name_J) dX12_readName_2 (fun H locs hP hD hS => ?_)
  exact j_X12_readName_5 l dC dI Q N R hx hb hr hml hown hts hlocks hZ hA hK N (RS.setL σ 0) _ _ _ hf hP hD hS (lv_sub hl [0] rfl)
