theorem k_X12_resolve_fieldLink_RX12_384_SRModel_pends_I : Cond.fieldLink RX12 384 "StatementRules2Model" "pends" "I" ∈ wzX12_resolve := List.mem_cons_of_mem _ (List.mem_append_left _ (List.mem_of_getElem? (i := 0) rfl))
theorem i_X12_resolve_X12 : ∀ w ∈ wsX120, w ∈ wzX12_resolve := fun _ h => List.mem_cons_of_mem _ (List.mem_append_right _ (List.mem_append_left _ (h)))
theorem k_X12_resolve_fieldLink_RX12_171_SRModel_pendTry_I : Cond.fieldLink RX12 171 "StatementRules2Model" "pendTry" "[I" ∈ wzX12_resolve := List.mem_cons_of_mem _ (List.mem_append_left _ (List.mem_of_getElem? (i := 1) rfl))
theorem k_X12_resolve_fieldLink_RX12_165_SRModel_pendGoal_I : Cond.fieldLink RX12 165 "StatementRules2Model" "pendGoal" "[I" ∈ wzX12_resolve := List.mem_cons_of_mem _ (List.mem_append_left _ (List.mem_of_getElem? (i := 2) rfl))
theorem k_X12_resolve_fieldLink_RX12_377_SRModel_walls_I : Cond.fieldLink RX12 377 "StatementRules2Model" "walls" "I" ∈ wzX12_resolve := List.mem_cons_of_mem _ (List.mem_append_left _ (List.mem_of_getElem? (i := 3) rfl))
theorem k_X12_resolve_fieldLink_RX12_168_SRModel_pendBreak_Z : Cond.fieldLink RX12 168 "StatementRules2Model" "pendBreak" "[Z" ∈ wzX12_resolve := List.mem_cons_of_mem _ (List.mem_append_left _ (List.mem_of_getElem? (i := 4) rfl))
theorem k_X12_resolve_fieldLink_RX12_162_SRModel_wallGoals_I : Cond.fieldLink RX12 162 "StatementRules2Model" "wallGoals" "[I" ∈ wzX12_resolve := List.mem_cons_of_mem _ (List.mem_append_left _ (List.mem_of_getElem? (i := 5) rfl))
theorem k_X12_resolve_fieldLink_RX12_159_SRModel_wallTry_I : Cond.fieldLink RX12 159 "StatementRules2Model" "wallTry" "[I" ∈ wzX12_resolve := List.mem_cons_of_mem _ (List.mem_append_left _ (List.mem_of_getElem? (i := 6) rfl))
set_option maxHeartbeats 4000000 in
set_option maxRecDepth 100000 in
theorem j_X12_resolve_2 {p : Program} {e : Env} {s : State} {m : MethodId} {args : Array Value} {below : List Frame} {meth : Method} {c : Code} {A : Nat → Prop} (l : Launch) (dC : Nat → ClassId) (dI : Nat → Nat → Nat) (Q : RQ) (N : Nat) (R : RS) (hx : p.tables.exec = Jvm.exec) (hb : c.code = cX12_resolve) (hr : meth.sig.returnType = none) (hml : c.maxLocals = 6) (hown : s.vm.findClass RX12 = some m.cls) (hts : ∀ w ∈ wzX12_resolve, w.before args s = true) (hlocks : meth.locks = false) (hZ : zAMB s) (hA : ∀ q : Nat, s.heap.size ≤ q → A q) (hK : va_K (dC, dI) vwCl (rT Q) s) : ∀ (n9 : Nat), ∀ (σ : RS) (x1 : Int32) (x2 : Int32) (x3 : Int32) (H : Heap) (locs : List Loc) (ls : Array Slot), f_X12_resolve_2 N n9 σ x1 x2 x3 = some R → va_P (dC, dI) vwCl (rW Q σ) H → va_D A (rW Q σ) → va_S A s.heap H locs → lv_has ls 6 [(0, .ref Q.h0), (1, .int x1), (2, .int x2), (3, .int x3)] → W p l e ({ frames := 2, cells := 0, slots := 0, locals := 120 }) s m args below meth c H locs 0 0 (MQ below (va_Qv (fun (_ : Unit) => True) (fun (_ : Unit) (t : State) => zPost dC dI A (rW Q R) (rT Q) t) A) args s 0 0 A) (F0 m 2 ls []) := by
  intro n9
  induction n9 with
  | zero => intro σ x1 x2 x3 H locs ls hf; exact absurd hf (by intro h9; cases h9)
  | succ n9 ih =>
    intro σ x1 x2 x3 H locs ls hf hP hD hS hl
    replace hf : b_X12_resolve_2 N (f_X12_resolve_2 N n9) σ x1 x2 x3 = some R := hf
    unfold b_X12_resolve_2 at hf
    refine lv_iload_n hx hb dX12_resolve_2 rfl (lv_at hl 3 rfl) ?_
    refine lv_aload_n hx hb dX12_resolve_3 rfl (lv_at hl 0 rfl) ?_
    refine rG_59 (v := (σ.i 59)) hx hb hts i_X12_resolve_X12 hown hK hP (hts (.fieldLink RX12 384 "StatementRules2Model" "pends" "I") k_X12_resolve_fieldLink_RX12_384_SRModel_pends_I) dX12_resolve_4 rfl ?_
    refine lv_icmp_ge (tgt := 118) hx hb dX12_resolve_7 (by decide) (fun c1 => ?_) (fun c1 => ?_)
    ·
      replace hf := (if_pos c1).symm.trans hf
      obtain rfl := Option.some.inj hf
      exact W.vret hx hb hr (fun t ht hW => ⟨⟨(), rfl, trivial, by rw [ht]; exact hP, va_K.moved hW.alike hK, hD⟩, hS.F ht⟩) hS.2.2 dX12_resolve_118
    ·
      replace hf := (if_neg c1).symm.trans hf
      refine lv_aload_n hx hb dX12_resolve_10 rfl (lv_at hl 0 rfl) ?_
      refine rG_62 hx hb hts i_X12_resolve_X12 hown hK hP (hts (.fieldLink RX12 171 "StatementRules2Model" "pendTry" "[I") k_X12_resolve_fieldLink_RX12_171_SRModel_pendTry_I) dX12_resolve_11 ?_
      refine lv_iload_n hx hb dX12_resolve_14 rfl (lv_at hl 3 rfl) ?_
      obtain ⟨b2, hf⟩ := hf_ite hf
      refine rL_62 (v := (σ.a 62 ((x3 : Int32).toNatClampNeg))) hx hb hK hP b2 dX12_resolve_15 rfl ?_
      refine lv_iload_n hx hb dX12_resolve_16 rfl (lv_at hl 1 rfl) ?_
      refine lv_icmp_eq (tgt := 23) hx hb dX12_resolve_17 (by decide) (fun c3 => ?_) (fun c3 => ?_)
      ·
        replace hf := (if_pos c3).symm.trans hf
        refine lv_aload_n hx hb dX12_resolve_23 rfl (lv_at hl 0 rfl) ?_
        refine rG_60 hx hb hts i_X12_resolve_X12 hown hK hP (hts (.fieldLink RX12 165 "StatementRules2Model" "pendGoal" "[I") k_X12_resolve_fieldLink_RX12_165_SRModel_pendGoal_I) dX12_resolve_24 ?_
        refine lv_iload_n hx hb dX12_resolve_27 rfl (lv_at hl 3 rfl) ?_
        refine rL_60 (v := (σ.a 60 ((x3 : Int32).toNatClampNeg))) hx hb hK hP b2 dX12_resolve_28 rfl ?_
        refine lv_istore (lv' := [(4, .int (σ.a 60 ((x3 : Int32).toNatClampNeg))), (0, .ref Q.h0), (1, .int x1), (2, .int x2), (3, .int x3)]) hx hb dX12_resolve_29 hl (by decide) rfl (fun ls hl => ?_)
        refine lv_iload_n hx hb dX12_resolve_31 rfl (lv_at hl 3 rfl) ?_
        refine lv_if_eq (tgt := 62) hx hb dX12_resolve_32 (by decide) (fun c4 => ?_) (fun c4 => ?_)
        ·
          replace hf := (if_pos c4).symm.trans hf
          refine lv_iconst (v := 0) hx hb dX12_resolve_62 (by decide) ?_
          refine lv_istore (lv' := [(5, .int 0), (4, .int (σ.a 60 ((x3 : Int32).toNatClampNeg))), (0, .ref Q.h0), (1, .int x1), (2, .int x2), (3, .int x3)]) hx hb dX12_resolve_63 hl (by decide) rfl (fun ls hl => ?_)
          refine lv_aload_n hx hb dX12_resolve_65 rfl (lv_at hl 2 rfl) ?_
          refine rG_62 hx hb hts i_X12_resolve_X12 hown hK hP (hts (.fieldLink RX12 171 "StatementRules2Model" "pendTry" "[I") k_X12_resolve_fieldLink_RX12_171_SRModel_pendTry_I) dX12_resolve_66 ?_
          refine lv_iload_n hx hb dX12_resolve_69 rfl (lv_at hl 5 rfl) ?_
          refine lv_iload hx hb dX12_resolve_70 (lv_at hl 0 rfl) ?_
          refine lv_if_eq (tgt := 89) hx hb dX12_resolve_72 (by decide) (fun _ => ?_) (fun c9 => absurd (by decide) c9)
          refine lv_iconst (v := (-1)) hx hb dX12_resolve_89 (by decide) ?_
          refine rS_62 hx hb hK hP hD hS b2 dX12_resolve_90 (fun H locs hP hD hS => ?_)
          refine lv_iload_n hx hb dX12_resolve_91 rfl (lv_at hl 4 rfl) ?_
          refine lv_if_eq (tgt := 112) hx hb dX12_resolve_92 (by decide) (fun _ => ?_) (fun c9 => absurd c4 c9)
          refine lv_iinc (v := (x3 + 1)) (lv' := [(3, .int (x3 + 1)), (5, .int 0), (4, .int (σ.a 60 ((x3 : Int32).toNatClampNeg))), (0, .ref Q.h0), (1, .int x1), (2, .int x2)]) hx hb dX12_resolve_112 hl (k := 5) rfl rfl (by decide) rfl (fun ls hl => ?_)
          refine lv_goto (tgt := 2) hx hb dX12_resolve_115 (by decide) ?_
          exact ih (RS.setA σ 62 ((x3 : Int32).toNatClampNeg) (-1)) x1 x2 (x3 + 1) _ _ _ hf hP hD hS (lv_sub hl [3, 4, 5, 0] rfl)
        ·
          replace hf := (if_neg c4).symm.trans hf
          refine lv_aload_n hx hb dX12_resolve_35 rfl (lv_at hl 1 rfl) ?_
          refine rG_56 (v := (σ.i 56)) hx hb hts i_X12_resolve_X12 hown hK hP (hts (.fieldLink RX12 377 "StatementRules2Model" "walls" "I") k_X12_resolve_fieldLink_RX12_377_SRModel_walls_I) dX12_resolve_36 rfl ?_
          refine lv_if_le (tgt := 62) hx hb dX12_resolve_39 (by decide) (fun c6 => ?_) (fun c6 => ?_)
          ·
            replace hf := (if_pos c6).symm.trans hf
            refine lv_iconst (v := 0) hx hb dX12_resolve_62 (by decide) ?_
            refine lv_istore (lv' := [(5, .int 0), (4, .int (σ.a 60 ((x3 : Int32).toNatClampNeg))), (0, .ref Q.h0), (1, .int x1), (2, .int x2), (3, .int x3)]) hx hb dX12_resolve_63 hl (by decide) rfl (fun ls hl => ?_)
            refine lv_aload_n hx hb dX12_resolve_65 rfl (lv_at hl 2 rfl) ?_
            refine rG_62 hx hb hts i_X12_resolve_X12 hown hK hP (hts (.fieldLink RX12 171 "StatementRules2Model" "pendTry" "[I") k_X12_resolve_fieldLink_RX12_171_SRModel_pendTry_I) dX12_resolve_66 ?_
            refine lv_iload_n hx hb dX12_resolve_69 rfl (lv_at hl 5 rfl) ?_
            refine lv_iload hx hb dX12_resolve_70 (lv_at hl 0 rfl) ?_
            refine lv_if_eq (tgt := 89) hx hb dX12_resolve_72 (by decide) (fun _ => ?_) (fun c9 => absurd (by decide) c9)
            refine lv_iconst (v := (-1)) hx hb dX12_resolve_89 (by decide) ?_
            refine rS_62 hx hb hK hP hD hS b2 dX12_resolve_90 (fun H locs hP hD hS => ?_)
            refine lv_iload_n hx hb dX12_resolve_91 rfl (lv_at hl 4 rfl) ?_
            refine lv_if_eq (tgt := 112) hx hb dX12_resolve_92 (by decide) (fun c9 => absurd c9 c4) (fun _ => ?_)
            refine lv_iload hx hb dX12_resolve_95 (lv_at hl 0 rfl) ?_
            refine lv_if_ne (tgt := 112) hx hb dX12_resolve_97 (by decide) (fun c9 => absurd (by decide) c9) (fun _ => ?_)
            refine lv_aload_n hx hb dX12_resolve_100 rfl (lv_at hl 2 rfl) ?_
            refine lv_iload hx hb dX12_resolve_101 (lv_at hl 1 rfl) ?_
            refine lv_aload_n hx hb dX12_resolve_103 rfl (lv_at hl 2 rfl) ?_
            refine rG_61 hx hb hts i_X12_resolve_X12 hown hK hP (hts (.fieldLink RX12 168 "StatementRules2Model" "pendBreak" "[Z") k_X12_resolve_fieldLink_RX12_168_SRModel_pendBreak_Z) dX12_resolve_104 ?_
            refine lv_iload_n hx hb dX12_resolve_107 rfl (lv_at hl 5 rfl) ?_
            refine rL_61 (v := (σ.a 61 ((x3 : Int32).toNatClampNeg))) hx hb hK hP b2 dX12_resolve_108 rfl ?_
            obtain ⟨p8, hcp8, hf⟩ := hf_bind hf
            have hFc := r_free hD hS hA
            refine va_callv (va_runV (As := [.int (σ.a 60 ((x3 : Int32).toNatClampNeg)), .int (σ.a 61 ((x3 : Int32).toNatClampNeg))]) (rest := []) ⟨hx, hb, hml, hown, hts⟩ (c_X12_goes l dC dI _ Q N (RS.setA σ 62 ((x3 : Int32).toNatClampNeg) (-1)) (σ.a 60 ((x3 : Int32).toNatClampNeg)) (σ.a 61 ((x3 : Int32).toNatClampNeg)) p8 hcp8) (cwV 2 hts hX12_resolve_X12_goes_v380 rfl rfl rfl (by decide +kernel) ⟨Nat.le_of_ble_eq_true rfl, Nat.le_of_ble_eq_true rfl⟩) ⟨zPre.blind, va_recv hK hP (ci := 11) (q0 := 0) rfl rfl, zPre.go hZ hP hK hD⟩ rfl rfl hl.1 rfl (lv_room (Nat.le_of_ble_eq_true rfl)) dX12_resolve_109 ⟨Nat.le_of_ble_eq_true rfl, Nat.le_of_ble_eq_true rfl⟩) hS (fun q _ h => hFc q h) hFc (fun u9 t9 H1 locs ht hvm hw hB hz1 hk1 hS => ?_)
            obtain ⟨hP, hK1, hD1⟩ := hB
            rw [ht] at hP
            have hD := hD1.weaken (fun _ _ _ h => hFc _ h)
            generalize H1 = H at hP hS ⊢
            refine lv_iinc (v := (x3 + 1)) (lv' := [(3, .int (x3 + 1)), (5, .int 0), (4, .int (σ.a 60 ((x3 : Int32).toNatClampNeg))), (0, .ref Q.h0), (1, .int x1), (2, .int x2)]) hx hb dX12_resolve_112 hl (k := 5) rfl rfl (by decide) rfl (fun ls hl => ?_)
            refine lv_goto (tgt := 2) hx hb dX12_resolve_115 (by decide) ?_
            exact ih p8 x1 x2 (x3 + 1) _ _ _ hf hP hD hS (lv_sub hl [3, 4, 5, 0] rfl)
          ·
            replace hf := (if_neg c6).symm.trans hf
            refine lv_iload hx hb dX12_resolve_42 (lv_at hl 0 rfl) ?_
            refine lv_aload_n hx hb dX12_resolve_44 rfl (lv_at hl 1 rfl) ?_
            refine rG_58 hx hb hts i_X12_resolve_X12 hown hK hP (hts (.fieldLink RX12 162 "StatementRules2Model" "wallGoals" "[I") k_X12_resolve_fieldLink_RX12_162_SRModel_wallGoals_I) dX12_resolve_45 ?_
            refine lv_aload_n hx hb dX12_resolve_48 rfl (lv_at hl 1 rfl) ?_
            refine rG_56 (v := (σ.i 56)) hx hb hts i_X12_resolve_X12 hown hK hP (hts (.fieldLink RX12 377 "StatementRules2Model" "walls" "I") k_X12_resolve_fieldLink_RX12_377_SRModel_walls_I) dX12_resolve_49 rfl ?_
            refine lv_iconst (v := 1) hx hb dX12_resolve_52 (by decide) ?_
            refine lv_isub hx hb dX12_resolve_53 ?_
            obtain ⟨b10, hf⟩ := hf_ite hf
            refine rL_58 (v := (σ.a 58 ((((σ.i 56) - 1) : Int32).toNatClampNeg))) hx hb hK hP b10 dX12_resolve_54 rfl ?_
            refine lv_icmp_ge (tgt := 62) hx hb dX12_resolve_55 (by decide) (fun c11 => ?_) (fun c11 => ?_)
            ·
              replace hf := (if_pos c11).symm.trans hf
              refine lv_iconst (v := 0) hx hb dX12_resolve_62 (by decide) ?_
              refine lv_istore (lv' := [(5, .int 0), (4, .int (σ.a 60 ((x3 : Int32).toNatClampNeg))), (0, .ref Q.h0), (1, .int x1), (2, .int x2), (3, .int x3)]) hx hb dX12_resolve_63 hl (by decide) rfl (fun ls hl => ?_)
              refine lv_aload_n hx hb dX12_resolve_65 rfl (lv_at hl 2 rfl) ?_
              refine rG_62 hx hb hts i_X12_resolve_X12 hown hK hP (hts (.fieldLink RX12 171 "StatementRules2Model" "pendTry" "[I") k_X12_resolve_fieldLink_RX12_171_SRModel_pendTry_I) dX12_resolve_66 ?_
              refine lv_iload_n hx hb dX12_resolve_69 rfl (lv_at hl 5 rfl) ?_
              refine lv_iload hx hb dX12_resolve_70 (lv_at hl 0 rfl) ?_
              refine lv_if_eq (tgt := 89) hx hb dX12_resolve_72 (by decide) (fun _ => ?_) (fun c9 => absurd (by decide) c9)
              refine lv_iconst (v := (-1)) hx hb dX12_resolve_89 (by decide) ?_
              refine rS_62 hx hb hK hP hD hS b2 dX12_resolve_90 (fun H locs hP hD hS => ?_)
              refine lv_iload_n hx hb dX12_resolve_91 rfl (lv_at hl 4 rfl) ?_
              refine lv_if_eq (tgt := 112) hx hb dX12_resolve_92 (by decide) (fun c9 => absurd c9 c4) (fun _ => ?_)
              refine lv_iload hx hb dX12_resolve_95 (lv_at hl 0 rfl) ?_
              refine lv_if_ne (tgt := 112) hx hb dX12_resolve_97 (by decide) (fun c9 => absurd (by decide) c9) (fun _ => ?_)
              refine lv_aload_n hx hb dX12_resolve_100 rfl (lv_at hl 2 rfl) ?_
              refine lv_iload hx hb dX12_resolve_101 (lv_at hl 1 rfl) ?_
              refine lv_aload_n hx hb dX12_resolve_103 rfl (lv_at hl 2 rfl) ?_
              refine rG_61 hx hb hts i_X12_resolve_X12 hown hK hP (hts (.fieldLink RX12 168 "StatementRules2Model" "pendBreak" "[Z") k_X12_resolve_fieldLink_RX12_168_SRModel_pendBreak_Z) dX12_resolve_104 ?_
              refine lv_iload_n hx hb dX12_resolve_107 rfl (lv_at hl 5 rfl) ?_
              refine rL_61 (v := (σ.a 61 ((x3 : Int32).toNatClampNeg))) hx hb hK hP b2 dX12_resolve_108 rfl ?_
              obtain ⟨p13, hcp13, hf⟩ := hf_bind hf
              have hFc := r_free hD hS hA
              refine va_callv (va_runV (As := [.int (σ.a 60 ((x3 : Int32).toNatClampNeg)), .int (σ.a 61 ((x3 : Int32).toNatClampNeg))]) (rest := []) ⟨hx, hb, hml, hown, hts⟩ (c_X12_goes l dC dI _ Q N (RS.setA σ 62 ((x3 : Int32).toNatClampNeg) (-1)) (σ.a 60 ((x3 : Int32).toNatClampNeg)) (σ.a 61 ((x3 : Int32).toNatClampNeg)) p13 hcp13) (cwV 2 hts hX12_resolve_X12_goes_v380 rfl rfl rfl (by decide +kernel) ⟨Nat.le_of_ble_eq_true rfl, Nat.le_of_ble_eq_true rfl⟩) ⟨zPre.blind, va_recv hK hP (ci := 11) (q0 := 0) rfl rfl, zPre.go hZ hP hK hD⟩ rfl rfl hl.1 rfl (lv_room (Nat.le_of_ble_eq_true rfl)) dX12_resolve_109 ⟨Nat.le_of_ble_eq_true rfl, Nat.le_of_ble_eq_true rfl⟩) hS (fun q _ h => hFc q h) hFc (fun u9 t9 H1 locs ht hvm hw hB hz1 hk1 hS => ?_)
              obtain ⟨hP, hK1, hD1⟩ := hB
              rw [ht] at hP
              have hD := hD1.weaken (fun _ _ _ h => hFc _ h)
              generalize H1 = H at hP hS ⊢
              refine lv_iinc (v := (x3 + 1)) (lv' := [(3, .int (x3 + 1)), (5, .int 0), (4, .int (σ.a 60 ((x3 : Int32).toNatClampNeg))), (0, .ref Q.h0), (1, .int x1), (2, .int x2)]) hx hb dX12_resolve_112 hl (k := 5) rfl rfl (by decide) rfl (fun ls hl => ?_)
              refine lv_goto (tgt := 2) hx hb dX12_resolve_115 (by decide) ?_
              exact ih p13 x1 x2 (x3 + 1) _ _ _ hf hP hD hS (lv_sub hl [3, 4, 5, 0] rfl)
            ·
              replace hf := (if_neg c11).symm.trans hf
              refine lv_iconst (v := 1) hx hb dX12_resolve_58 (by decide) ?_
              refine lv_goto (tgt := 63) hx hb dX12_resolve_59 (by decide) ?_
              refine lv_istore (lv' := [(5, .int 1), (4, .int (σ.a 60 ((x3 : Int32).toNatClampNeg))), (0, .ref Q.h0), (1, .int x1), (2, .int x2), (3, .int x3)]) hx hb dX12_resolve_63 hl (by decide) rfl (fun ls hl => ?_)
              refine lv_aload_n hx hb dX12_resolve_65 rfl (lv_at hl 2 rfl) ?_
              refine rG_62 hx hb hts i_X12_resolve_X12 hown hK hP (hts (.fieldLink RX12 171 "StatementRules2Model" "pendTry" "[I") k_X12_resolve_fieldLink_RX12_171_SRModel_pendTry_I) dX12_resolve_66 ?_
              refine lv_iload_n hx hb dX12_resolve_69 rfl (lv_at hl 5 rfl) ?_
              refine lv_iload hx hb dX12_resolve_70 (lv_at hl 0 rfl) ?_
              refine lv_if_eq (tgt := 89) hx hb dX12_resolve_72 (by decide) (fun c9 => absurd c9 (by decide)) (fun _ => ?_)
              refine lv_aload_n hx hb dX12_resolve_75 rfl (lv_at hl 2 rfl) ?_
              refine rG_57 hx hb hts i_X12_resolve_X12 hown hK hP (hts (.fieldLink RX12 159 "StatementRules2Model" "wallTry" "[I") k_X12_resolve_fieldLink_RX12_159_SRModel_wallTry_I) dX12_resolve_76 ?_
              refine lv_aload_n hx hb dX12_resolve_79 rfl (lv_at hl 2 rfl) ?_
              refine rG_56 (v := (σ.i 56)) hx hb hts i_X12_resolve_X12 hown hK hP (hts (.fieldLink RX12 377 "StatementRules2Model" "walls" "I") k_X12_resolve_fieldLink_RX12_377_SRModel_walls_I) dX12_resolve_80 rfl ?_
              refine lv_iconst (v := 1) hx hb dX12_resolve_83 (by decide) ?_
              refine lv_isub hx hb dX12_resolve_84 ?_
              refine rL_57 (v := (σ.a 57 ((((σ.i 56) - 1) : Int32).toNatClampNeg))) hx hb hK hP b10 dX12_resolve_85 rfl ?_
              refine lv_goto (tgt := 90) hx hb dX12_resolve_86 (by decide) ?_
              refine rS_62 hx hb hK hP hD hS b2 dX12_resolve_90 (fun H locs hP hD hS => ?_)
              refine lv_iload_n hx hb dX12_resolve_91 rfl (lv_at hl 4 rfl) ?_
              refine lv_if_eq (tgt := 112) hx hb dX12_resolve_92 (by decide) (fun c9 => absurd c9 c4) (fun _ => ?_)
              refine lv_iload hx hb dX12_resolve_95 (lv_at hl 0 rfl) ?_
              refine lv_if_ne (tgt := 112) hx hb dX12_resolve_97 (by decide) (fun _ => ?_) (fun c9 => absurd c9 (by decide))
              refine lv_iinc (v := (x3 + 1)) (lv' := [(3, .int (x3 + 1)), (5, .int 1), (4, .int (σ.a 60 ((x3 : Int32).toNatClampNeg))), (0, .ref Q.h0), (1, .int x1), (2, .int x2)]) hx hb dX12_resolve_112 hl (k := 5) rfl rfl (by decide) rfl (fun ls hl => ?_)
              refine lv_goto (tgt := 2) hx hb dX12_resolve_115 (by decide) ?_
              exact ih (RS.setA σ 62 ((x3 : Int32).toNatClampNeg) (σ.a 57 ((((σ.i 56) - 1) : Int32).toNatClampNeg))) x1 x2 (x3 + 1) _ _ _ hf hP hD hS (lv_sub hl [3, 4, 5, 0] rfl)
      ·
        replace hf := (if_neg c3).symm.trans hf
        refine lv_goto (tgt := 112) hx hb dX12_resolve_20 (by decide) ?_
        refine lv_iinc (v := (x3 + 1)) (lv' := [(3, .int (x3 + 1)), (0, .ref Q.h0), (1, .int x1), (2, .int x2)]) hx hb dX12_resolve_112 hl (k := 3) rfl rfl (by decide) rfl (fun ls hl => ?_)
        refine lv_goto (tgt := 2) hx hb dX12_resolve_115 (by decide) ?_
        exact ih σ x1 x2 (x3 + 1) _ _ _ hf hP hD hS (lv_sub hl [1, 2, 3, 0] rfl)
set_option maxHeartbeats 4000000 in
set_option maxRecDepth 100000 in
theorem c_X12_resolve (l : Launch) (dC : Nat → ClassId) (dI : Nat → Nat → Nat) (sz : Nat) (Q : RQ) (N : Nat) (σ : RS) (x1 : Int32) (x2 : Int32) (R : RS) (hf : f_X12_resolve N σ x1 x2 = some R) : Met l yX12_resolve wzX12_resolve ({ frames := 2, cells := 0, slots := 0, locals := 120 }) (va_Pc [.ref Q.h0, .int x1, .int x2] (zPre dC dI sz (rW Q σ) (rT Q))) (va_Qv (fun (_ : Unit) => True) (fun (_ : Unit) (t : State) => zPost dC dI (va_A (rW Q σ) sz) (rW Q R) (rT Q) t) (va_A (rW Q σ) sz)) 0 0 (va_A (rW Q σ) sz) := by
  refine Met.ofW (cc := cX12_resolve) (maxL := 6) (ret := none) (by decide) rfl ?_
  intro p e s m args below meth c s₁ B hml hv
  obtain ⟨rfl, hsz, hZ, hP, hK, hD0⟩ := hv
  have hx := B.exec
  have hb := B.bytes
  have hr := B.returns
  have hts := atoms_spec (ws := wzX12_resolve) B.pre
  have hown : s.vm.findClass RX12 = some m.cls := findClass_of_methodNamed B.named
  have hlocks := B.notSynchronized
  subst hsz
  have hD := hD0.self (sz := s.heap.size)
  generalize hAe : va_A (rW Q σ) s.heap.size = A at hD ⊢
  have hA : ∀ q : Nat, s.heap.size ≤ q → A q := fun q h => by rw [← hAe]; exact Or.inr h
  have hS : va_S A s.heap s.heap [] := va_S.rf
  have hl := lv_entry ([.ref Q.h0, .int x1, .int x2]) (n := 6) (Nat.le_of_ble_eq_true rfl)
  rw [lg_entry_eq]
  generalize (lg_sl ([.ref Q.h0, .int x1, .int x2]) ++ List.replicate (6 - (lg_sl ([.ref Q.h0, .int x1, .int x2])).length) Slot.unset).toArray = ls at hl ⊢
  have hl : lv_has ls 6 [(0, .ref Q.h0), (1, .int x1), (2, .int x2)] := hl
  unfold f_X12_resolve at hf
  refine lv_iconst (v := 0) hx hb dX12_resolve_0 (by decide) ?_
  refine lv_istore_n (lv' := [(3, .int 0), (0, .ref Q.h0), (1, .int x1), (2, .int x2)]) hx hb dX12_resolve_1 rfl hl (by decide) rfl (fun ls hl => ?_)
  exact j_X12_resolve_2 l dC dI Q N R hx hb hr hml hown hts hlocks hZ hA hK N σ x1 x2 0 _ _ _ hf hP hD hS (lv_sub hl [1, 2, 3, 0] rfl)
theorem k_X12_push_fieldLink_RX12_387_SRModel_top_I : Cond.fieldLink RX12 387 "StatementRules2Model" "top" "I" ∈ wzX12_push := List.mem_cons_of_mem _ (List.mem_append_left _ (List.mem_of_getElem? (i := 0) rfl))
theorem i_X12_push_X12 : ∀ w ∈ wsX120, w ∈ wzX12_push := fun _ h => List.mem_cons_of_mem _ (List.mem_append_right _ (List.mem_append_left _ (h)))
theorem k_X12_push_fieldLink_RX12_174_SRModel_fk_I : Cond.fieldLink RX12 174 "StatementRules2Model" "fk" "[I" ∈ wzX12_push := List.mem_cons_of_mem _ (List.mem_append_left _ (List.mem_of_getElem? (i := 1) rfl))
theorem k_X12_push_fieldLink_RX12_177_SRModel_fs_I : Cond.fieldLink RX12 177 "StatementRules2Model" "fs" "[I" ∈ wzX12_push := List.mem_cons_of_mem _ (List.mem_append_left _ (List.mem_of_getElem? (i := 2) rfl))
set_option maxHeartbeats 4000000 in
set_option maxRecDepth 100000 in
theorem c_X12_push (l : Launch) (dC : Nat → ClassId) (dI : Nat → Nat → Nat) (sz : Nat) (Q : RQ) (N : Nat) (σ : RS) (x1 : Int32) (R : RS) (hf : f_X12_push N σ x1 = some R) : Met l yX12_push wzX12_push ({ frames := 1, cells := 0, slots := 0, locals := 60 }) (va_Pc [.ref Q.h0, .int x1] (zPre dC dI sz (rW Q σ) (rT Q))) (va_Qv (fun (_ : Unit) => True) (fun (_ : Unit) (t : State) => zPost dC dI (va_A (rW Q σ) sz) (rW Q R) (rT Q) t) (va_A (rW Q σ) sz)) 0 0 (va_A (rW Q σ) sz) := by
  refine Met.ofW (cc := cX12_push) (maxL := 2) (ret := none) (by decide) rfl ?_
  intro p e s m args below meth c s₁ B hml hv
  obtain ⟨rfl, hsz, hZ, hP, hK, hD0⟩ := hv
  have hx := B.exec
  have hb := B.bytes
  have hr := B.returns
  have hts := atoms_spec (ws := wzX12_push) B.pre
  have hown : s.vm.findClass RX12 = some m.cls := findClass_of_methodNamed B.named
  have hlocks := B.notSynchronized
  subst hsz
  have hD := hD0.self (sz := s.heap.size)
  generalize hAe : va_A (rW Q σ) s.heap.size = A at hD ⊢
  have hA : ∀ q : Nat, s.heap.size ≤ q → A q := fun q h => by rw [← hAe]; exact Or.inr h
  have hS : va_S A s.heap s.heap [] := va_S.rf
  have hl := lv_entry ([.ref Q.h0, .int x1]) (n := 2) (Nat.le_of_ble_eq_true rfl)
  rw [lg_entry_eq]
  generalize (lg_sl ([.ref Q.h0, .int x1]) ++ List.replicate (2 - (lg_sl ([.ref Q.h0, .int x1])).length) Slot.unset).toArray = ls at hl ⊢
  have hl : lv_has ls 2 [(0, .ref Q.h0), (1, .int x1)] := hl
  unfold f_X12_push at hf
  refine lv_aload_n hx hb dX12_push_0 rfl (lv_at hl 0 rfl) ?_
  refine lv_dup hx hb dX12_push_1 rfl ?_
  refine rG_63 (v := (σ.i 63)) hx hb hts i_X12_push_X12 hown hK hP (hts (.fieldLink RX12 387 "StatementRules2Model" "top" "I") k_X12_push_fieldLink_RX12_387_SRModel_top_I) dX12_push_2 rfl ?_
  refine lv_iconst (v := 1) hx hb dX12_push_5 (by decide) ?_
  refine lv_iadd hx hb dX12_push_6 ?_
  refine rP_63 hx hb hts i_X12_push_X12 hown hK hP hD hS (hts (.fieldLink RX12 387 "StatementRules2Model" "top" "I") k_X12_push_fieldLink_RX12_387_SRModel_top_I) dX12_push_7 (fun H locs hP hD hS => ?_)
  refine lv_aload_n hx hb dX12_push_10 rfl (lv_at hl 0 rfl) ?_
  refine rG_64 hx hb hts i_X12_push_X12 hown hK hP (hts (.fieldLink RX12 174 "StatementRules2Model" "fk" "[I") k_X12_push_fieldLink_RX12_174_SRModel_fk_I) dX12_push_11 ?_
  refine lv_aload_n hx hb dX12_push_14 rfl (lv_at hl 0 rfl) ?_
  refine rG_63 (v := ((σ.i 63) + 1)) hx hb hts i_X12_push_X12 hown hK hP (hts (.fieldLink RX12 387 "StatementRules2Model" "top" "I") k_X12_push_fieldLink_RX12_387_SRModel_top_I) dX12_push_15 rfl ?_
  refine lv_iload_n hx hb dX12_push_18 rfl (lv_at hl 1 rfl) ?_
  obtain ⟨b1, hf⟩ := hf_ite hf
  refine rS_64 hx hb hK hP hD hS b1 dX12_push_19 (fun H locs hP hD hS => ?_)
  refine lv_aload_n hx hb dX12_push_20 rfl (lv_at hl 0 rfl) ?_
  refine rG_65 hx hb hts i_X12_push_X12 hown hK hP (hts (.fieldLink RX12 177 "StatementRules2Model" "fs" "[I") k_X12_push_fieldLink_RX12_177_SRModel_fs_I) dX12_push_21 ?_
  refine lv_aload_n hx hb dX12_push_24 rfl (lv_at hl 0 rfl) ?_
  refine rG_63 (v := ((σ.i 63) + 1)) hx hb hts i_X12_push_X12 hown hK hP (hts (.fieldLink RX12 387 "StatementRules2Model" "top" "I") k_X12_push_fieldLink_RX12_387_SRModel_top_I) dX12_push_25 rfl ?_
  refine lv_iconst (v := 0) hx hb dX12_push_28 (by decide) ?_
  refine rS_65 hx hb hK hP hD hS b1 dX12_push_29 (fun H locs hP hD hS => ?_)
  obtain rfl := Option.some.inj hf
  exact W.vret hx hb hr (fun t ht hW => ⟨⟨(), rfl, trivial, by rw [ht]; exact hP, va_K.moved hW.alike hK, hD⟩, hS.F ht⟩) hS.2.2 dX12_push_30
theorem k_X12_then_fieldLink_RX12_177_SRModel_fs_I : Cond.fieldLink RX12 177 "StatementRules2Model" "fs" "[I" ∈ wzX12_then := List.mem_cons_of_mem _ (List.mem_append_left _ (List.mem_of_getElem? (i := 0) rfl))
theorem i_X12_then_X12 : ∀ w ∈ wsX120, w ∈ wzX12_then := fun _ h => List.mem_cons_of_mem _ (List.mem_append_right _ (List.mem_append_left _ (h)))
theorem k_X12_then_fieldLink_RX12_387_SRModel_top_I : Cond.fieldLink RX12 387 "StatementRules2Model" "top" "I" ∈ wzX12_then := List.mem_cons_of_mem _ (List.mem_append_left _ (List.mem_of_getElem? (i := 1) rfl))
set_option maxHeartbeats 4000000 in
set_option maxRecDepth 100000 in
theorem c_X12_then (l : Launch) (dC : Nat → ClassId) (dI : Nat → Nat → Nat) (sz : Nat) (Q : RQ) (N : Nat) (σ : RS) (x1 : Int32) (x2 : Int32) (R : RS) (hf : f_X12_then N σ x1 x2 = some R) : Met l yX12_then wzX12_then ({ frames := 2, cells := 0, slots := 0, locals := 120 }) (va_Pc [.ref Q.h0, .int x1, .int x2] (zPre dC dI sz (rW Q σ) (rT Q))) (va_Qv (fun (_ : Unit) => True) (fun (_ : Unit) (t : State) => zPost dC dI (va_A (rW Q σ) sz) (rW Q R) (rT Q) t) (va_A (rW Q σ) sz)) 0 0 (va_A (rW Q σ) sz) := by
  refine Met.ofW (cc := cX12_then) (maxL := 3) (ret := none) (by decide) rfl ?_
  intro p e s m args below meth c s₁ B hml hv
  obtain ⟨rfl, hsz, hZ, hP, hK, hD0⟩ := hv
  have hx := B.exec
  have hb := B.bytes
  have hr := B.returns
  have hts := atoms_spec (ws := wzX12_then) B.pre
  have hown : s.vm.findClass RX12 = some m.cls := findClass_of_methodNamed B.named
  have hlocks := B.notSynchronized
  subst hsz
  have hD := hD0.self (sz := s.heap.size)
  generalize hAe : va_A (rW Q σ) s.heap.size = A at hD ⊢
  have hA : ∀ q : Nat, s.heap.size ≤ q → A q := fun q h => by rw [← hAe]; exact Or.inr h
  have hS : va_S A s.heap s.heap [] := va_S.rf
  have hl := lv_entry ([.ref Q.h0, .int x1, .int x2]) (n := 3) (Nat.le_of_ble_eq_true rfl)
  rw [lg_entry_eq]
  generalize (lg_sl ([.ref Q.h0, .int x1, .int x2]) ++ List.replicate (3 - (lg_sl ([.ref Q.h0, .int x1, .int x2])).length) Slot.unset).toArray = ls at hl ⊢
  have hl : lv_has ls 3 [(0, .ref Q.h0), (1, .int x1), (2, .int x2)] := hl
  unfold f_X12_then at hf
  refine lv_aload_n hx hb dX12_then_0 rfl (lv_at hl 0 rfl) ?_
  refine rG_65 hx hb hts i_X12_then_X12 hown hK hP (hts (.fieldLink RX12 177 "StatementRules2Model" "fs" "[I") k_X12_then_fieldLink_RX12_177_SRModel_fs_I) dX12_then_1 ?_
  refine lv_aload_n hx hb dX12_then_4 rfl (lv_at hl 0 rfl) ?_
  refine rG_63 (v := (σ.i 63)) hx hb hts i_X12_then_X12 hown hK hP (hts (.fieldLink RX12 387 "StatementRules2Model" "top" "I") k_X12_then_fieldLink_RX12_387_SRModel_top_I) dX12_then_5 rfl ?_
  refine lv_iload_n hx hb dX12_then_8 rfl (lv_at hl 1 rfl) ?_
  obtain ⟨b1, hf⟩ := hf_ite hf
  refine rS_65 hx hb hK hP hD hS b1 dX12_then_9 (fun H locs hP hD hS => ?_)
  refine lv_aload_n hx hb dX12_then_10 rfl (lv_at hl 0 rfl) ?_
  refine lv_iload_n hx hb dX12_then_11 rfl (lv_at hl 2 rfl) ?_
  obtain ⟨p2, hcp2, hf⟩ := hf_bind hf
  have hFc := r_free hD hS hA
  refine va_callv (va_runV (As := [.int x2]) (rest := []) ⟨hx, hb, hml, hown, hts⟩ (c_X12_push l dC dI _ Q N (RS.setA σ 65 (((σ.i 63) : Int32).toNatClampNeg) x1) x2 p2 hcp2) (cwV 1 hts hX12_then_X12_push_v390 rfl rfl rfl (by decide +kernel) ⟨Nat.le_of_ble_eq_true rfl, Nat.le_of_ble_eq_true rfl⟩) ⟨zPre.blind, va_recv hK hP (ci := 11) (q0 := 0) rfl rfl, zPre.go hZ hP hK hD⟩ rfl rfl hl.1 rfl (lv_room (Nat.le_of_ble_eq_true rfl)) dX12_then_12 ⟨Nat.le_of_ble_eq_true rfl, Nat.le_of_ble_eq_true rfl⟩) hS (fun q _ h => hFc q h) hFc (fun u9 t9 H1 locs ht hvm hw hB hz1 hk1 hS => ?_)
  obtain ⟨hP, hK1, hD1⟩ := hB
  rw [ht] at hP
  have hD := hD1.weaken (fun _ _ _ h => hFc _ h)
  generalize H1 = H at hP hS ⊢
  obtain rfl := Option.some.inj hf
  exact W.vret hx hb hr (fun t ht hW => ⟨⟨(), rfl, trivial, by rw [ht]; exact hP, va_K.moved hW.alike hK, hD⟩, hS.F ht⟩) hS.2.2 dX12_then_15
theorem k_X12_body_fieldLink_RX12_307_SRModel_tok_I : Cond.fieldLink RX12 307 "StatementRules2Model" "tok" "I" ∈ wzX12_body := List.mem_cons_of_mem _ (List.mem_append_left _ (List.mem_of_getElem? (i := 0) rfl))
theorem i_X12_body_X12 : ∀ w ∈ wsX120, w ∈ wzX12_body := fun _ h => List.mem_cons_of_mem _ (List.mem_append_right _ (List.mem_append_left _ (h)))
set_option maxHeartbeats 4000000 in
set_option maxRecDepth 100000 in
theorem j_X12_body_32 {p : Program} {e : Env} {s : State} {m : MethodId} {args : Array Value} {below : List Frame} {meth : Method} {c : Code} {A : Nat → Prop} (l : Launch) (dC : Nat → ClassId) (dI : Nat → Nat → Nat) (Q : RQ) (N : Nat) (R : RS) (hx : p.tables.exec = Jvm.exec) (hb : c.code = cX12_body) (hr : meth.sig.returnType = none) (hml : c.maxLocals = 2) (hown : s.vm.findClass RX12 = some m.cls) (hts : ∀ w ∈ wzX12_body, w.before args s = true) (hlocks : meth.locks = false) (hZ : zAMB s) (hA : ∀ q : Nat, s.heap.size ≤ q → A q) (hK : va_K (dC, dI) vwCl (rT Q) s) : ∀ (σ : RS) (x1 : Int32) (H : Heap) (locs : List Loc) (ls : Array Slot), f_X12_body_32 N σ x1 = some R → va_P (dC, dI) vwCl (rW Q σ) H → va_D A (rW Q σ) → va_S A s.heap H locs → lv_has ls 2 [(0, .ref Q.h0), (1, .int x1)] → W p l e ({ frames := 3, cells := 0, slots := 0, locals := 180 }) s m args below meth c H locs 0 0 (MQ below (va_Qv (fun (_ : Unit) => True) (fun (_ : Unit) (t : State) => zPost dC dI A (rW Q R) (rT Q) t) A) args s 0 0 A) (F0 m 32 ls []) := by
  intro σ x1 H locs ls hf hP hD hS hl
  unfold f_X12_body_32 at hf
  refine lv_aload_n hx hb dX12_body_32 rfl (lv_at hl 0 rfl) ?_
  refine lv_iload_n hx hb dX12_body_33 rfl (lv_at hl 1 rfl) ?_
  refine lv_iconst (v := 2) hx hb dX12_body_34 (by decide) ?_
  obtain ⟨p5, hcp5, hf⟩ := hf_bind hf
  have hFc := r_free hD hS hA
  refine va_callv (va_runV (As := [.int x1, .int 2]) (rest := []) ⟨hx, hb, hml, hown, hts⟩ (c_X12_then l dC dI _ Q N σ x1 2 p5 hcp5) (cwV 2 hts hX12_body_X12_then_v393 rfl rfl rfl (by decide +kernel) ⟨Nat.le_of_ble_eq_true rfl, Nat.le_of_ble_eq_true rfl⟩) ⟨zPre.blind, va_recv hK hP (ci := 11) (q0 := 0) rfl rfl, zPre.go hZ hP hK hD⟩ rfl rfl hl.1 rfl (lv_room (Nat.le_of_ble_eq_true rfl)) dX12_body_35 ⟨Nat.le_of_ble_eq_true rfl, Nat.le_of_ble_eq_true rfl⟩) hS (fun q _ h => hFc q h) hFc (fun u9 t9 H1 locs ht hvm hw hB hz1 hk1 hS => ?_)
  obtain ⟨hP, hK1, hD1⟩ := hB
  rw [ht] at hP
  have hD := hD1.weaken (fun _ _ _ h => hFc _ h)
  generalize H1 = H at hP hS ⊢
  obtain rfl := Option.some.inj hf
  exact W.vret hx hb hr (fun t ht hW => ⟨⟨(), rfl, trivial, by rw [ht]; exact hP, va_K.moved hW.alike hK, hD⟩, hS.F ht⟩) hS.2.2 dX12_body_38
set_option maxHeartbeats 4000000 in
set_option maxRecDepth 100000 in
theorem c_X12_body (l : Launch) (dC : Nat → ClassId) (dI : Nat → Nat → Nat) (sz : Nat) (Q : RQ) (N : Nat) (σ : RS) (x1 : Int32) (R : RS) (hf : f_X12_body N σ x1 = some R) : Met l yX12_body wzX12_body ({ frames := 3, cells := 0, slots := 0, locals := 180 }) (va_Pc [.ref Q.h0, .int x1] (zPre dC dI sz (rW Q σ) (rT Q))) (va_Qv (fun (_ : Unit) => True) (fun (_ : Unit) (t : State) => zPost dC dI (va_A (rW Q σ) sz) (rW Q R) (rT Q) t) (va_A (rW Q σ) sz)) 0 0 (va_A (rW Q σ) sz) := by
  refine Met.ofW (cc := cX12_body) (maxL := 2) (ret := none) (by decide) rfl ?_
  intro p e s m args below meth c s₁ B hml hv
  obtain ⟨rfl, hsz, hZ, hP, hK, hD0⟩ := hv
  have hx := B.exec
  have hb := B.bytes
  have hr := B.returns
  have hts := atoms_spec (ws := wzX12_body) B.pre
  have hown : s.vm.findClass RX12 = some m.cls := findClass_of_methodNamed B.named
  have hlocks := B.notSynchronized
  subst hsz
  have hD := hD0.self (sz := s.heap.size)
  generalize hAe : va_A (rW Q σ) s.heap.size = A at hD ⊢
  have hA : ∀ q : Nat, s.heap.size ≤ q → A q := fun q h => by rw [← hAe]; exact Or.inr h
  have hS : va_S A s.heap s.heap [] := va_S.rf
  have hl := lv_entry ([.ref Q.h0, .int x1]) (n := 2) (Nat.le_of_ble_eq_true rfl)
  rw [lg_entry_eq]
  generalize (lg_sl ([.ref Q.h0, .int x1]) ++ List.replicate (2 - (lg_sl ([.ref Q.h0, .int x1])).length) Slot.unset).toArray = ls at hl ⊢
  have hl : lv_has ls 2 [(0, .ref Q.h0), (1, .int x1)] := hl
  unfold f_X12_body at hf
  refine lv_aload_n hx hb dX12_body_0 rfl (lv_at hl 0 rfl) ?_
  refine lv_aload_n hx hb dX12_body_1 rfl (lv_at hl 0 rfl) ?_
  refine rG_10 (v := (σ.i 10)) hx hb hts i_X12_body_X12 hown hK hP (hts (.fieldLink RX12 307 "StatementRules2Model" "tok" "I") k_X12_body_fieldLink_RX12_307_SRModel_tok_I) dX12_body_2 rfl ?_
  refine lv_sipush (v := 410) hx hb dX12_body_5 (by decide) ?_
  refine lv_icmp_eq (tgt := 25) hx hb dX12_body_8 (by decide) (fun c1 => ?_) (fun c1 => ?_)
  ·
    replace hf := (if_pos c1).symm.trans hf
    refine lv_iconst (v := 0) hx hb dX12_body_25 (by decide) ?_
    obtain ⟨p2, hcp2, hf⟩ := hf_bind hf
    have hFc := r_free hD hS hA
    refine va_calli (va_runV (As := [.int 0]) (rest := []) ⟨hx, hb, hml, hown, hts⟩ (c_X12_can l dC dI _ Q N σ 0 p2 hcp2) (cwV 1 hts hX12_body_X12_can_v341 rfl rfl rfl (by decide +kernel) ⟨Nat.le_of_ble_eq_true rfl, Nat.le_of_ble_eq_true rfl⟩) ⟨zPre.blind, va_recv hK hP (ci := 11) (q0 := 0) rfl rfl, zPre.go hZ hP hK hD⟩ rfl rfl hl.1 rfl (lv_room (Nat.le_of_ble_eq_true rfl)) dX12_body_26 ⟨Nat.le_of_ble_eq_true rfl, Nat.le_of_ble_eq_true rfl⟩) hS (fun q _ h => hFc q h) hFc (fun r3 u9 t9 H1 locs ht hvm hw hB hz1 hk1 hS => ?_)
    obtain ⟨hP, hK1, hD1⟩ := hB
    rw [ht] at hP
    have hD := hD1.weaken (fun _ _ _ h => hFc _ h)
    generalize H1 = H at hP hS ⊢
    obtain rfl : r3 = p2.1 := hw
    refine lv_if_eq (tgt := 38) hx hb dX12_body_29 (by decide) (fun c4 => ?_) (fun c4 => ?_)
    ·
      replace hf := (if_pos c4).symm.trans hf
      obtain rfl := Option.some.inj hf
      exact W.vret hx hb hr (fun t ht hW => ⟨⟨(), rfl, trivial, by rw [ht]; exact hP, va_K.moved hW.alike hK, hD⟩, hS.F ht⟩) hS.2.2 dX12_body_38
    ·
      replace hf := (if_neg c4).symm.trans hf
      exact j_X12_body_32 l dC dI Q N R hx hb hr hml hown hts hlocks hZ hA hK p2.2 x1 _ _ _ hf hP hD hS (lv_sub hl [0, 1] rfl)
  ·
    replace hf := (if_neg c1).symm.trans hf
    refine lv_aload_n hx hb dX12_body_11 rfl (lv_at hl 0 rfl) ?_
    refine rG_10 (v := (σ.i 10)) hx hb hts i_X12_body_X12 hown hK hP (hts (.fieldLink RX12 307 "StatementRules2Model" "tok" "I") k_X12_body_fieldLink_RX12_307_SRModel_tok_I) dX12_body_12 rfl ?_
    refine lv_sipush (v := 411) hx hb dX12_body_15 (by decide) ?_
    refine lv_icmp_eq (tgt := 25) hx hb dX12_body_18 (by decide) (fun c7 => ?_) (fun c7 => ?_)
    ·
      replace hf := (if_pos c7).symm.trans hf
      refine lv_iconst (v := 0) hx hb dX12_body_25 (by decide) ?_
      obtain ⟨p8, hcp8, hf⟩ := hf_bind hf
      have hFc := r_free hD hS hA
      refine va_calli (va_runV (As := [.int 0]) (rest := []) ⟨hx, hb, hml, hown, hts⟩ (c_X12_can l dC dI _ Q N σ 0 p8 hcp8) (cwV 1 hts hX12_body_X12_can_v341 rfl rfl rfl (by decide +kernel) ⟨Nat.le_of_ble_eq_true rfl, Nat.le_of_ble_eq_true rfl⟩) ⟨zPre.blind, va_recv hK hP (ci := 11) (q0 := 0) rfl rfl, zPre.go hZ hP hK hD⟩ rfl rfl hl.1 rfl (lv_room (Nat.le_of_ble_eq_true rfl)) dX12_body_26 ⟨Nat.le_of_ble_eq_true rfl, Nat.le_of_ble_eq_true rfl⟩) hS (fun q _ h => hFc q h) hFc (fun r9 u9 t9 H1 locs ht hvm hw hB hz1 hk1 hS => ?_)
      obtain ⟨hP, hK1, hD1⟩ := hB
      rw [ht] at hP
      have hD := hD1.weaken (fun _ _ _ h => hFc _ h)
      generalize H1 = H at hP hS ⊢
      obtain rfl : r9 = p8.1 := hw
      refine lv_if_eq (tgt := 38) hx hb dX12_body_29 (by decide) (fun c10 => ?_) (fun c10 => ?_)
      ·
        replace hf := (if_pos c10).symm.trans hf
        obtain rfl := Option.some.inj hf
        exact W.vret hx hb hr (fun t ht hW => ⟨⟨(), rfl, trivial, by rw [ht]; exact hP, va_K.moved hW.alike hK, hD⟩, hS.F ht⟩) hS.2.2 dX12_body_38
      ·
        replace hf := (if_neg c10).symm.trans hf
        exact j_X12_body_32 l dC dI Q N R hx hb hr hml hown hts hlocks hZ hA hK p8.2 x1 _ _ _ hf hP hD hS (lv_sub hl [0, 1] rfl)
    ·
      replace hf := (if_neg c7).symm.trans hf
      refine lv_iconst (v := 1) hx hb dX12_body_21 (by decide) ?_
      refine lv_goto (tgt := 26) hx hb dX12_body_22 (by decide) ?_
      obtain ⟨p11, hcp11, hf⟩ := hf_bind hf
      have hFc := r_free hD hS hA
      refine va_calli (va_runV (As := [.int 1]) (rest := []) ⟨hx, hb, hml, hown, hts⟩ (c_X12_can l dC dI _ Q N σ 1 p11 hcp11) (cwV 1 hts hX12_body_X12_can_v341 rfl rfl rfl (by decide +kernel) ⟨Nat.le_of_ble_eq_true rfl, Nat.le_of_ble_eq_true rfl⟩) ⟨zPre.blind, va_recv hK hP (ci := 11) (q0 := 0) rfl rfl, zPre.go hZ hP hK hD⟩ rfl rfl hl.1 rfl (lv_room (Nat.le_of_ble_eq_true rfl)) dX12_body_26 ⟨Nat.le_of_ble_eq_true rfl, Nat.le_of_ble_eq_true rfl⟩) hS (fun q _ h => hFc q h) hFc (fun r12 u9 t9 H1 locs ht hvm hw hB hz1 hk1 hS => ?_)
      obtain ⟨hP, hK1, hD1⟩ := hB
      rw [ht] at hP
      have hD := hD1.weaken (fun _ _ _ h => hFc _ h)
      generalize H1 = H at hP hS ⊢
      obtain rfl : r12 = p11.1 := hw
      refine lv_if_eq (tgt := 38) hx hb dX12_body_29 (by decide) (fun c13 => ?_) (fun c13 => ?_)
      ·
        replace hf := (if_pos c13).symm.trans hf
        obtain rfl := Option.some.inj hf
        exact W.vret hx hb hr (fun t ht hW => ⟨⟨(), rfl, trivial, by rw [ht]; exact hP, va_K.moved hW.alike hK, hD⟩, hS.F ht⟩) hS.2.2 dX12_body_38
      ·
        replace hf := (if_neg c13).symm.trans hf
        exact j_X12_body_32 l dC dI Q N R hx hb hr hml hown hts hlocks hZ hA hK p11.2 x1 _ _ _ hf hP hD hS (lv_sub hl [0, 1] rfl)
theorem k_X12_over_fieldLink_RX12_396_SRModel_res_Z : Cond.fieldLink RX12 396 "StatementRules2Model" "res" "Z" ∈ wzX12_over := List.mem_cons_of_mem _ (List.mem_append_left _ (List.mem_of_getElem? (i := 0) rfl))
theorem i_X12_over_X12 : ∀ w ∈ wsX120, w ∈ wzX12_over := fun _ h => List.mem_cons_of_mem _ (List.mem_append_right _ (List.mem_append_left _ (h)))
theorem k_X12_over_fieldLink_RX12_387_SRModel_top_I : Cond.fieldLink RX12 387 "StatementRules2Model" "top" "I" ∈ wzX12_over := List.mem_cons_of_mem _ (List.mem_append_left _ (List.mem_of_getElem? (i := 1) rfl))
set_option maxHeartbeats 4000000 in
set_option maxRecDepth 100000 in
theorem c_X12_over (l : Launch) (dC : Nat → ClassId) (dI : Nat → Nat → Nat) (sz : Nat) (Q : RQ) (N : Nat) (σ : RS) (x1 : Int32) (R : RS) (hf : f_X12_over N σ x1 = some R) : Met l yX12_over wzX12_over ({ frames := 1, cells := 0, slots := 0, locals := 60 }) (va_Pc [.ref Q.h0, .int x1] (zPre dC dI sz (rW Q σ) (rT Q))) (va_Qv (fun (_ : Unit) => True) (fun (_ : Unit) (t : State) => zPost dC dI (va_A (rW Q σ) sz) (rW Q R) (rT Q) t) (va_A (rW Q σ) sz)) 0 0 (va_A (rW Q σ) sz) := by
  refine Met.ofW (cc := cX12_over) (maxL := 2) (ret := none) (by decide) rfl ?_
  intro p e s m args below meth c s₁ B hml hv
  obtain ⟨rfl, hsz, hZ, hP, hK, hD0⟩ := hv
  have hx := B.exec
  have hb := B.bytes
  have hr := B.returns
  have hts := atoms_spec (ws := wzX12_over) B.pre
  have hown : s.vm.findClass RX12 = some m.cls := findClass_of_methodNamed B.named
  have hlocks := B.notSynchronized
  subst hsz
  have hD := hD0.self (sz := s.heap.size)
  generalize hAe : va_A (rW Q σ) s.heap.size = A at hD ⊢
  have hA : ∀ q : Nat, s.heap.size ≤ q → A q := fun q h => by rw [← hAe]; exact Or.inr h
  have hS : va_S A s.heap s.heap [] := va_S.rf
  have hl := lv_entry ([.ref Q.h0, .int x1]) (n := 2) (Nat.le_of_ble_eq_true rfl)
  rw [lg_entry_eq]
  generalize (lg_sl ([.ref Q.h0, .int x1]) ++ List.replicate (2 - (lg_sl ([.ref Q.h0, .int x1])).length) Slot.unset).toArray = ls at hl ⊢
  have hl : lv_has ls 2 [(0, .ref Q.h0), (1, .int x1)] := hl
  unfold f_X12_over at hf
  refine lv_aload_n hx hb dX12_over_0 rfl (lv_at hl 0 rfl) ?_
  refine lv_iload_n hx hb dX12_over_1 rfl (lv_at hl 1 rfl) ?_
  obtain ⟨b1, hf⟩ := hf_ite hf
  refine rP_75 hx hb hts i_X12_over_X12 hown hK hP hD hS (hts (.fieldLink RX12 396 "StatementRules2Model" "res" "Z") k_X12_over_fieldLink_RX12_396_SRModel_res_Z) dX12_over_2 b1 (fun H locs hP hD hS => ?_)
  refine lv_aload_n hx hb dX12_over_5 rfl (lv_at hl 0 rfl) ?_
  refine lv_dup hx hb dX12_over_6 rfl ?_
  refine rG_63 (v := (σ.i 63)) hx hb hts i_X12_over_X12 hown hK hP (hts (.fieldLink RX12 387 "StatementRules2Model" "top" "I") k_X12_over_fieldLink_RX12_387_SRModel_top_I) dX12_over_7 rfl ?_
  refine lv_iconst (v := 1) hx hb dX12_over_10 (by decide) ?_
  refine lv_isub hx hb dX12_over_11 ?_
  refine rP_63 hx hb hts i_X12_over_X12 hown hK hP hD hS (hts (.fieldLink RX12 387 "StatementRules2Model" "top" "I") k_X12_over_fieldLink_RX12_387_SRModel_top_I) dX12_over_12 (fun H locs hP hD hS => ?_)
  obtain rfl := Option.some.inj hf
  exact W.vret hx hb hr (fun t ht hW => ⟨⟨(), rfl, trivial, by rw [ht]; exact hP, va_K.moved hW.alike hK, hD⟩, hS.F ht⟩) hS.2.2 dX12_over_15
theorem k_X12_list_fieldLink_RX12_177_SRModel_fs_I : Cond.fieldLink RX12 177 "StatementRules2Model" "fs" "[I" ∈ wzX12_list := List.mem_cons_of_mem _ (List.mem_append_left _ (List.mem_of_getElem? (i := 0) rfl))
theorem i_X12_list_X12 : ∀ w ∈ wsX120, w ∈ wzX12_list := fun _ h => List.mem_cons_of_mem _ (List.mem_append_right _ (List.mem_append_left _ (h)))
theorem k_X12_list_fieldLink_RX12_180_SRModel_fp_I : Cond.fieldLink RX12 180 "StatementRules2Model" "fp" "[I" ∈ wzX12_list := List.mem_cons_of_mem _ (List.mem_append_left _ (List.mem_of_getElem? (i := 1) rfl))
theorem k_X12_list_fieldLink_RX12_396_SRModel_res_Z : Cond.fieldLink RX12 396 "StatementRules2Model" "res" "Z" ∈ wzX12_list := List.mem_cons_of_mem _ (List.mem_append_left _ (List.mem_of_getElem? (i := 2) rfl))
theorem k_X12_list_fieldLink_RX12_307_SRModel_tok_I : Cond.fieldLink RX12 307 "StatementRules2Model" "tok" "I" ∈ wzX12_list := List.mem_cons_of_mem _ (List.mem_append_left _ (List.mem_of_getElem? (i := 3) rfl))
theorem k_X12_list_fieldLink_RX12_304_SRModel_from_I : Cond.fieldLink RX12 304 "StatementRules2Model" "from" "I" ∈ wzX12_list := List.mem_cons_of_mem _ (List.mem_append_left _ (List.mem_of_getElem? (i := 4) rfl))
set_option maxHeartbeats 4000000 in
set_option maxRecDepth 100000 in
theorem j_X12_list_73 {p : Program} {e : Env} {s : State} {m : MethodId} {args : Array Value} {below : List Frame} {meth : Method} {c : Code} {A : Nat → Prop} (l : Launch) (dC : Nat → ClassId) (dI : Nat → Nat → Nat) (Q : RQ) (N : Nat) (R : RS) (hx : p.tables.exec = Jvm.exec) (hb : c.code = cX12_list) (hr : meth.sig.returnType = none) (hml : c.maxLocals = 2) (hown : s.vm.findClass RX12 = some m.cls) (hts : ∀ w ∈ wzX12_list, w.before args s = true) (hlocks : meth.locks = false) (hZ : zAMB s) (hA : ∀ q : Nat, s.heap.size ≤ q → A q) (hK : va_K (dC, dI) vwCl (rT Q) s) : ∀ (σ : RS) (x1 : Int32) (H : Heap) (locs : List Loc) (ls : Array Slot), f_X12_list_73 N σ x1 = some R → va_P (dC, dI) vwCl (rW Q σ) H → va_D A (rW Q σ) → va_S A s.heap H locs → lv_has ls 2 [(0, .ref Q.h0), (1, .int x1)] → W p l e ({ frames := 3, cells := 0, slots := 0, locals := 180 }) s m args below meth c H locs 0 0 (MQ below (va_Qv (fun (_ : Unit) => True) (fun (_ : Unit) (t : State) => zPost dC dI A (rW Q R) (rT Q) t) A) args s 0 0 A) (F0 m 73 ls []) := by
  intro σ x1 H locs ls hf hP hD hS hl
  unfold f_X12_list_73 at hf
  refine lv_aload_n hx hb dX12_list_73 rfl (lv_at hl 0 rfl) ?_
  refine lv_aload_n hx hb dX12_list_74 rfl (lv_at hl 0 rfl) ?_
  refine rG_66 hx hb hts i_X12_list_X12 hown hK hP (hts (.fieldLink RX12 180 "StatementRules2Model" "fp" "[I") k_X12_list_fieldLink_RX12_180_SRModel_fp_I) dX12_list_75 ?_
  refine lv_iload_n hx hb dX12_list_78 rfl (lv_at hl 1 rfl) ?_
  obtain ⟨b5, hf⟩ := hf_ite hf
  refine rL_66 (v := (σ.a 66 ((x1 : Int32).toNatClampNeg))) hx hb hK hP b5 dX12_list_79 rfl ?_
  refine lv_iconst (v := 1) hx hb dX12_list_80 (by decide) ?_
  refine lv_icmp_ne (tgt := 88) hx hb dX12_list_81 (by decide) (fun c6 => ?_) (fun c6 => ?_)
  ·
    replace hf := (if_neg c6).symm.trans hf
    refine lv_iconst (v := 0) hx hb dX12_list_88 (by decide) ?_
    obtain ⟨p7, hcp7, hf⟩ := hf_bind hf
    have hFc := r_free hD hS hA
    refine va_callv (va_runV (As := [.int 0]) (rest := []) ⟨hx, hb, hml, hown, hts⟩ (c_X12_over l dC dI _ Q N σ 0 p7 hcp7) (cwV 1 hts hX12_list_X12_over_v490 rfl rfl rfl (by decide +kernel) ⟨Nat.le_of_ble_eq_true rfl, Nat.le_of_ble_eq_true rfl⟩) ⟨zPre.blind, va_recv hK hP (ci := 11) (q0 := 0) rfl rfl, zPre.go hZ hP hK hD⟩ rfl rfl hl.1 rfl (lv_room (Nat.le_of_ble_eq_true rfl)) dX12_list_89 ⟨Nat.le_of_ble_eq_true rfl, Nat.le_of_ble_eq_true rfl⟩) hS (fun q _ h => hFc q h) hFc (fun u9 t9 H1 locs ht hvm hw hB hz1 hk1 hS => ?_)
    obtain ⟨hP, hK1, hD1⟩ := hB
    rw [ht] at hP
    have hD := hD1.weaken (fun _ _ _ h => hFc _ h)
    generalize H1 = H at hP hS ⊢
    obtain rfl := Option.some.inj hf
    exact W.vret hx hb hr (fun t ht hW => ⟨⟨(), rfl, trivial, by rw [ht]; exact hP, va_K.moved hW.alike hK, hD⟩, hS.F ht⟩) hS.2.2 dX12_list_92
  ·
    replace hf := (if_pos c6).symm.trans hf
    refine lv_iconst (v := 1) hx hb dX12_list_84 (by decide) ?_
    refine lv_goto (tgt := 89) hx hb dX12_list_85 (by decide) ?_
    obtain ⟨p9, hcp9, hf⟩ := hf_bind hf
    have hFc := r_free hD hS hA
    refine va_callv (va_runV (As := [.int 1]) (rest := []) ⟨hx, hb, hml, hown, hts⟩ (c_X12_over l dC dI _ Q N σ 1 p9 hcp9) (cwV 1 hts hX12_list_X12_over_v490 rfl rfl rfl (by decide +kernel) ⟨Nat.le_of_ble_eq_true rfl, Nat.le_of_ble_eq_true rfl⟩) ⟨zPre.blind, va_recv hK hP (ci := 11) (q0 := 0) rfl rfl, zPre.go hZ hP hK hD⟩ rfl rfl hl.1 rfl (lv_room (Nat.le_of_ble_eq_true rfl)) dX12_list_89 ⟨Nat.le_of_ble_eq_true rfl, Nat.le_of_ble_eq_true rfl⟩) hS (fun q _ h => hFc q h) hFc (fun u9 t9 H1 locs ht hvm hw hB hz1 hk1 hS => ?_)
    obtain ⟨hP, hK1, hD1⟩ := hB
    rw [ht] at hP
    have hD := hD1.weaken (fun _ _ _ h => hFc _ h)
    generalize H1 = H at hP hS ⊢
    obtain rfl := Option.some.inj hf
    exact W.vret hx hb hr (fun t ht hW => ⟨⟨(), rfl, trivial, by rw [ht]; exact hP, va_K.moved hW.alike hK, hD⟩, hS.F ht⟩) hS.2.2 dX12_list_92
set_option maxHeartbeats 4000000 in
set_option maxRecDepth 100000 in
theorem j_X12_list_110 {p : Program} {e : Env} {s : State} {m : MethodId} {args : Array Value} {below : List Frame} {meth : Method} {c : Code} {A : Nat → Prop} (l : Launch) (dC : Nat → ClassId) (dI : Nat → Nat → Nat) (Q : RQ) (N : Nat) (R : RS) (hx : p.tables.exec = Jvm.exec) (hb : c.code = cX12_list) (hr : meth.sig.returnType = none) (hml : c.maxLocals = 2) (hown : s.vm.findClass RX12 = some m.cls) (hts : ∀ w ∈ wzX12_list, w.before args s = true) (hlocks : meth.locks = false) (hZ : zAMB s) (hA : ∀ q : Nat, s.heap.size ≤ q → A q) (hK : va_K (dC, dI) vwCl (rT Q) s) : ∀ (σ : RS) (H : Heap) (locs : List Loc) (ls : Array Slot), f_X12_list_110 N σ = some R → va_P (dC, dI) vwCl (rW Q σ) H → va_D A (rW Q σ) → va_S A s.heap H locs → lv_has ls 2 [(0, .ref Q.h0)] → W p l e ({ frames := 3, cells := 0, slots := 0, locals := 180 }) s m args below meth c H locs 0 0 (MQ below (va_Qv (fun (_ : Unit) => True) (fun (_ : Unit) (t : State) => zPost dC dI A (rW Q R) (rT Q) t) A) args s 0 0 A) (F0 m 110 ls []) := by
  intro σ  H locs ls hf hP hD hS hl
  unfold f_X12_list_110 at hf
  refine lv_aload_n hx hb dX12_list_110 rfl (lv_at hl 0 rfl) ?_
  refine lv_iconst (v := 1) hx hb dX12_list_111 (by decide) ?_
  refine lv_iconst (v := 2) hx hb dX12_list_112 (by decide) ?_
  obtain ⟨p16, hcp16, hf⟩ := hf_bind hf
  have hFc := r_free hD hS hA
  refine va_callv (va_runV (As := [.int 1, .int 2]) (rest := []) ⟨hx, hb, hml, hown, hts⟩ (c_X12_then l dC dI _ Q N σ 1 2 p16 hcp16) (cwV 2 hts hX12_list_X12_then_v393 rfl rfl rfl (by decide +kernel) ⟨Nat.le_of_ble_eq_true rfl, Nat.le_of_ble_eq_true rfl⟩) ⟨zPre.blind, va_recv hK hP (ci := 11) (q0 := 0) rfl rfl, zPre.go hZ hP hK hD⟩ rfl rfl hl.1 rfl (lv_room (Nat.le_of_ble_eq_true rfl)) dX12_list_113 ⟨Nat.le_of_ble_eq_true rfl, Nat.le_of_ble_eq_true rfl⟩) hS (fun q _ h => hFc q h) hFc (fun u9 t9 H1 locs ht hvm hw hB hz1 hk1 hS => ?_)
  obtain ⟨hP, hK1, hD1⟩ := hB
  rw [ht] at hP
  have hD := hD1.weaken (fun _ _ _ h => hFc _ h)
  generalize H1 = H at hP hS ⊢
  obtain rfl := Option.some.inj hf
  exact W.vret hx hb hr (fun t ht hW => ⟨⟨(), rfl, trivial, by rw [ht]; exact hP, va_K.moved hW.alike hK, hD⟩, hS.F ht⟩) hS.2.2 dX12_list_116
set_option maxHeartbeats 4000000 in
set_option maxRecDepth 100000 in
theorem j_X12_list_37 {p : Program} {e : Env} {s : State} {m : MethodId} {args : Array Value} {below : List Frame} {meth : Method} {c : Code} {A : Nat → Prop} (l : Launch) (dC : Nat → ClassId) (dI : Nat → Nat → Nat) (Q : RQ) (N : Nat) (R : RS) (hx : p.tables.exec = Jvm.exec) (hb : c.code = cX12_list) (hr : meth.sig.returnType = none) (hml : c.maxLocals = 2) (hown : s.vm.findClass RX12 = some m.cls) (hts : ∀ w ∈ wzX12_list, w.before args s = true) (hlocks : meth.locks = false) (hZ : zAMB s) (hA : ∀ q : Nat, s.heap.size ≤ q → A q) (hK : va_K (dC, dI) vwCl (rT Q) s) : ∀ (σ : RS) (x1 : Int32) (H : Heap) (locs : List Loc) (ls : Array Slot), f_X12_list_37 N σ x1 = some R → va_P (dC, dI) vwCl (rW Q σ) H → va_D A (rW Q σ) → va_S A s.heap H locs → lv_has ls 2 [(0, .ref Q.h0), (1, .int x1)] → W p l e ({ frames := 3, cells := 0, slots := 0, locals := 180 }) s m args below meth c H locs 0 0 (MQ below (va_Qv (fun (_ : Unit) => True) (fun (_ : Unit) (t : State) => zPost dC dI A (rW Q R) (rT Q) t) A) args s 0 0 A) (F0 m 37 ls []) := by
  intro σ x1 H locs ls hf hP hD hS hl
  unfold f_X12_list_37 at hf
  refine lv_aload_n hx hb dX12_list_37 rfl (lv_at hl 0 rfl) ?_
  refine rG_10 (v := (σ.i 10)) hx hb hts i_X12_list_X12 hown hK hP (hts (.fieldLink RX12 307 "StatementRules2Model" "tok" "I") k_X12_list_fieldLink_RX12_307_SRModel_tok_I) dX12_list_38 rfl ?_
  refine lv_bipush (v := 125) hx hb dX12_list_41 (by decide) ?_
  refine lv_icmp_eq (tgt := 73) hx hb dX12_list_43 (by decide) (fun c4 => ?_) (fun c4 => ?_)
  ·
    replace hf := (if_pos c4).symm.trans hf
    exact j_X12_list_73 l dC dI Q N R hx hb hr hml hown hts hlocks hZ hA hK σ x1 _ _ _ hf hP hD hS (lv_sub hl [0, 1] rfl)
  ·
    replace hf := (if_neg c4).symm.trans hf
    refine lv_aload_n hx hb dX12_list_46 rfl (lv_at hl 0 rfl) ?_
    refine rG_10 (v := (σ.i 10)) hx hb hts i_X12_list_X12 hown hK hP (hts (.fieldLink RX12 307 "StatementRules2Model" "tok" "I") k_X12_list_fieldLink_RX12_307_SRModel_tok_I) dX12_list_47 rfl ?_
    refine lv_sipush (v := 429) hx hb dX12_list_50 (by decide) ?_
    refine lv_icmp_eq (tgt := 73) hx hb dX12_list_53 (by decide) (fun c11 => ?_) (fun c11 => ?_)
    ·
      replace hf := (if_pos c11).symm.trans hf
      exact j_X12_list_73 l dC dI Q N R hx hb hr hml hown hts hlocks hZ hA hK σ x1 _ _ _ hf hP hD hS (lv_sub hl [0, 1] rfl)
    ·
      replace hf := (if_neg c11).symm.trans hf
      refine lv_aload_n hx hb dX12_list_56 rfl (lv_at hl 0 rfl) ?_
      refine rG_10 (v := (σ.i 10)) hx hb hts i_X12_list_X12 hown hK hP (hts (.fieldLink RX12 307 "StatementRules2Model" "tok" "I") k_X12_list_fieldLink_RX12_307_SRModel_tok_I) dX12_list_57 rfl ?_
      refine lv_sipush (v := 430) hx hb dX12_list_60 (by decide) ?_
      refine lv_icmp_eq (tgt := 73) hx hb dX12_list_63 (by decide) (fun c12 => ?_) (fun c12 => ?_)
      ·
        replace hf := (if_pos c12).symm.trans hf
        exact j_X12_list_73 l dC dI Q N R hx hb hr hml hown hts hlocks hZ hA hK σ x1 _ _ _ hf hP hD hS (lv_sub hl [0, 1] rfl)
      ·
        replace hf := (if_neg c12).symm.trans hf
        refine lv_aload_n hx hb dX12_list_66 rfl (lv_at hl 0 rfl) ?_
        refine rG_10 (v := (σ.i 10)) hx hb hts i_X12_list_X12 hown hK hP (hts (.fieldLink RX12 307 "StatementRules2Model" "tok" "I") k_X12_list_fieldLink_RX12_307_SRModel_tok_I) dX12_list_67 rfl ?_
        refine lv_if_ne (tgt := 93) hx hb dX12_list_70 (by decide) (fun c13 => ?_) (fun c13 => ?_)
        ·
          replace hf := (if_neg c13).symm.trans hf
          refine lv_aload_n hx hb dX12_list_93 rfl (lv_at hl 0 rfl) ?_
          refine rG_66 hx hb hts i_X12_list_X12 hown hK hP (hts (.fieldLink RX12 180 "StatementRules2Model" "fp" "[I") k_X12_list_fieldLink_RX12_180_SRModel_fp_I) dX12_list_94 ?_
          refine lv_iload_n hx hb dX12_list_97 rfl (lv_at hl 1 rfl) ?_
          obtain ⟨b14, hf⟩ := hf_ite hf
          refine rL_66 (v := (σ.a 66 ((x1 : Int32).toNatClampNeg))) hx hb hK hP b14 dX12_list_98 rfl ?_
          refine lv_if_ne (tgt := 110) hx hb dX12_list_99 (by decide) (fun c15 => ?_) (fun c15 => ?_)
          ·
            replace hf := (if_neg c15).symm.trans hf
            exact j_X12_list_110 l dC dI Q N R hx hb hr hml hown hts hlocks hZ hA hK σ _ _ _ hf hP hD hS (lv_sub hl [0] rfl)
          ·
            replace hf := (if_pos c15).symm.trans hf
            refine lv_aload_n hx hb dX12_list_102 rfl (lv_at hl 0 rfl) ?_
            refine lv_aload_n hx hb dX12_list_103 rfl (lv_at hl 0 rfl) ?_
            refine rG_11 (v := (σ.i 11)) hx hb hts i_X12_list_X12 hown hK hP (hts (.fieldLink RX12 304 "StatementRules2Model" "from" "I") k_X12_list_fieldLink_RX12_304_SRModel_from_I) dX12_list_104 rfl ?_
            obtain ⟨p18, hcp18, hf⟩ := hf_bind hf
            have hFc := r_free hD hS hA
            refine va_callv (va_runV (As := [.int (σ.i 11)]) (rest := []) ⟨hx, hb, hml, hown, hts⟩ (c_X12_note l dC dI _ Q N σ (σ.i 11) p18 hcp18) (cwV 1 hts hX12_list_X12_note_v487 rfl rfl rfl (by decide +kernel) ⟨Nat.le_of_ble_eq_true rfl, Nat.le_of_ble_eq_true rfl⟩) ⟨zPre.blind, va_recv hK hP (ci := 11) (q0 := 0) rfl rfl, zPre.go hZ hP hK hD⟩ rfl rfl hl.1 rfl (lv_room (Nat.le_of_ble_eq_true rfl)) dX12_list_107 ⟨Nat.le_of_ble_eq_true rfl, Nat.le_of_ble_eq_true rfl⟩) hS (fun q _ h => hFc q h) hFc (fun u9 t9 H1 locs ht hvm hw hB hz1 hk1 hS => ?_)
            obtain ⟨hP, hK1, hD1⟩ := hB
            rw [ht] at hP
            have hD := hD1.weaken (fun _ _ _ h => hFc _ h)
            generalize H1 = H at hP hS ⊢
            exact j_X12_list_110 l dC dI Q N R hx hb hr hml hown hts hlocks hZ hA hK p18 _ _ _ hf hP hD hS (lv_sub hl [0] rfl)
        ·
          replace hf := (if_pos c13).symm.trans hf
          exact j_X12_list_73 l dC dI Q N R hx hb hr hml hown hts hlocks hZ hA hK σ x1 _ _ _ hf hP hD hS (lv_sub hl [0, 1] rfl)
set_option maxHeartbeats 4000000 in
set_option maxRecDepth 100000 in
theorem c_X12_list (l : Launch) (dC : Nat → ClassId) (dI : Nat → Nat → Nat) (sz : Nat) (Q : RQ) (N : Nat) (σ : RS) (x1 : Int32) (R : RS) (hf : f_X12_list N σ x1 = some R) : Met l yX12_list wzX12_list ({ frames := 3, cells := 0, slots := 0, locals := 180 }) (va_Pc [.ref Q.h0, .int x1] (zPre dC dI sz (rW Q σ) (rT Q))) (va_Qv (fun (_ : Unit) => True) (fun (_ : Unit) (t : State) => zPost dC dI (va_A (rW Q σ) sz) (rW Q R) (rT Q) t) (va_A (rW Q σ) sz)) 0 0 (va_A (rW Q σ) sz) := by
  refine Met.ofW (cc := cX12_list) (maxL := 2) (ret := none) (by decide) rfl ?_
  intro p e s m args below meth c s₁ B hml hv
  obtain ⟨rfl, hsz, hZ, hP, hK, hD0⟩ := hv
  have hx := B.exec
  have hb := B.bytes
  have hr := B.returns
  have hts := atoms_spec (ws := wzX12_list) B.pre
  have hown : s.vm.findClass RX12 = some m.cls := findClass_of_methodNamed B.named
  have hlocks := B.notSynchronized
  subst hsz
  have hD := hD0.self (sz := s.heap.size)
  generalize hAe : va_A (rW Q σ) s.heap.size = A at hD ⊢
  have hA : ∀ q : Nat, s.heap.size ≤ q → A q := fun q h => by rw [← hAe]; exact Or.inr h
  have hS : va_S A s.heap s.heap [] := va_S.rf
  have hl := lv_entry ([.ref Q.h0, .int x1]) (n := 2) (Nat.le_of_ble_eq_true rfl)
  rw [lg_entry_eq]
  generalize (lg_sl ([.ref Q.h0, .int x1]) ++ List.replicate (2 - (lg_sl ([.ref Q.h0, .int x1])).length) Slot.unset).toArray = ls at hl ⊢
  have hl : lv_has ls 2 [(0, .ref Q.h0), (1, .int x1)] := hl
  unfold f_X12_list at hf
  refine lv_aload_n hx hb dX12_list_0 rfl (lv_at hl 0 rfl) ?_
  refine rG_65 hx hb hts i_X12_list_X12 hown hK hP (hts (.fieldLink RX12 177 "StatementRules2Model" "fs" "[I") k_X12_list_fieldLink_RX12_177_SRModel_fs_I) dX12_list_1 ?_
  refine lv_iload_n hx hb dX12_list_4 rfl (lv_at hl 1 rfl) ?_
  obtain ⟨b1, hf⟩ := hf_ite hf
  refine rL_65 (v := (σ.a 65 ((x1 : Int32).toNatClampNeg))) hx hb hK hP b1 dX12_list_5 rfl ?_
  refine lv_if_ne (tgt := 19) hx hb dX12_list_6 (by decide) (fun c2 => ?_) (fun c2 => ?_)
  ·
    replace hf := (if_neg c2).symm.trans hf
    refine lv_aload_n hx hb dX12_list_19 rfl (lv_at hl 0 rfl) ?_
    refine rG_66 hx hb hts i_X12_list_X12 hown hK hP (hts (.fieldLink RX12 180 "StatementRules2Model" "fp" "[I") k_X12_list_fieldLink_RX12_180_SRModel_fp_I) dX12_list_20 ?_
    refine lv_iload_n hx hb dX12_list_23 rfl (lv_at hl 1 rfl) ?_
    refine lv_aload_n hx hb dX12_list_24 rfl (lv_at hl 0 rfl) ?_
    refine rG_75 (v := (σ.i 75)) hx hb hts i_X12_list_X12 hown hK hP (hts (.fieldLink RX12 396 "StatementRules2Model" "res" "Z") k_X12_list_fieldLink_RX12_396_SRModel_res_Z) dX12_list_25 rfl ?_
    refine lv_if_eq (tgt := 35) hx hb dX12_list_28 (by decide) (fun c3 => ?_) (fun c3 => ?_)
    ·
      replace hf := (if_pos c3).symm.trans hf
      refine lv_iconst (v := 0) hx hb dX12_list_35 (by decide) ?_
      refine rS_66 hx hb hK hP hD hS b1 dX12_list_36 (fun H locs hP hD hS => ?_)
      exact j_X12_list_37 l dC dI Q N R hx hb hr hml hown hts hlocks hZ hA hK (RS.setA σ 66 ((x1 : Int32).toNatClampNeg) 0) x1 _ _ _ hf hP hD hS (lv_sub hl [0, 1] rfl)
    ·
      replace hf := (if_neg c3).symm.trans hf
      refine lv_iconst (v := 1) hx hb dX12_list_31 (by decide) ?_
      refine lv_goto (tgt := 36) hx hb dX12_list_32 (by decide) ?_
      refine rS_66 hx hb hK hP hD hS b1 dX12_list_36 (fun H locs hP hD hS => ?_)
      exact j_X12_list_37 l dC dI Q N R hx hb hr hml hown hts hlocks hZ hA hK (RS.setA σ 66 ((x1 : Int32).toNatClampNeg) 1) x1 _ _ _ hf hP hD hS (lv_sub hl [0, 1] rfl)
  ·
    replace hf := (if_pos c2).symm.trans hf
    refine lv_aload_n hx hb dX12_list_9 rfl (lv_at hl 0 rfl) ?_
    refine rG_66 hx hb hts i_X12_list_X12 hown hK hP (hts (.fieldLink RX12 180 "StatementRules2Model" "fp" "[I") k_X12_list_fieldLink_RX12_180_SRModel_fp_I) dX12_list_10 ?_
    refine lv_iload_n hx hb dX12_list_13 rfl (lv_at hl 1 rfl) ?_
    refine lv_iconst (v := 1) hx hb dX12_list_14 (by decide) ?_
    refine rS_66 hx hb hK hP hD hS b1 dX12_list_15 (fun H locs hP hD hS => ?_)
    refine lv_goto (tgt := 37) hx hb dX12_list_16 (by decide) ?_
    exact j_X12_list_37 l dC dI Q N R hx hb hr hml hown hts hlocks hZ hA hK (RS.setA σ 66 ((x1 : Int32).toNatClampNeg) 1) x1 _ _ _ hf hP hD hS (lv_sub hl [0, 1] rfl)
theorem k_X12_jump_fieldLink_RX12_307_SRModel_tok_I : Cond.fieldLink RX12 307 "StatementRules2Model" "tok" "I" ∈ wzX12_jump := List.mem_cons_of_mem _ (List.mem_append_left _ (List.mem_of_getElem? (i := 0) rfl))
theorem i_X12_jump_X12 : ∀ w ∈ wsX120, w ∈ wzX12_jump := fun _ h => List.mem_cons_of_mem _ (List.mem_append_right _ (List.mem_append_left _ (h)))
theorem k_X12_jump_fieldLink_RX12_304_SRModel_from_I : Cond.fieldLink RX12 304 "StatementRules2Model" "from" "I" ∈ wzX12_jump := List.mem_cons_of_mem _ (List.mem_append_left _ (List.mem_of_getElem? (i := 1) rfl))
theorem k_X12_jump_fieldLink_RX12_527_SRModel_jumps_I : Cond.fieldLink RX12 527 "StatementRules2Model" "jumps" "I" ∈ wzX12_jump := List.mem_cons_of_mem _ (List.mem_append_left _ (List.mem_of_getElem? (i := 2) rfl))
theorem k_X12_jump_fieldLink_RX12_367_SRModel_goals_I : Cond.fieldLink RX12 367 "StatementRules2Model" "goals" "I" ∈ wzX12_jump := List.mem_cons_of_mem _ (List.mem_append_left _ (List.mem_of_getElem? (i := 3) rfl))
theorem k_X12_jump_fieldLink_RX12_150_SRModel_continues_I : Cond.fieldLink RX12 150 "StatementRules2Model" "continues" "[I" ∈ wzX12_jump := List.mem_cons_of_mem _ (List.mem_append_left _ (List.mem_of_getElem? (i := 4) rfl))
theorem k_X12_jump_fieldLink_RX12_90_SRModel_iy_I : Cond.fieldLink RX12 90 "StatementRules2Model" "iy" "[I" ∈ wzX12_jump := List.mem_cons_of_mem _ (List.mem_append_left _ (List.mem_of_getElem? (i := 5) rfl))
theorem k_X12_jump_fieldLink_RX12_144_SRModel_goalDepth_I : Cond.fieldLink RX12 144 "StatementRules2Model" "goalDepth" "[I" ∈ wzX12_jump := List.mem_cons_of_mem _ (List.mem_append_left _ (List.mem_of_getElem? (i := 6) rfl))
theorem k_X12_jump_fieldLink_RX12_147_SRModel_breaks_I : Cond.fieldLink RX12 147 "StatementRules2Model" "breaks" "[I" ∈ wzX12_jump := List.mem_cons_of_mem _ (List.mem_append_left _ (List.mem_of_getElem? (i := 7) rfl))
theorem k_X12_jump_fieldLink_RX12_141_SRModel_goalLoop_I : Cond.fieldLink RX12 141 "StatementRules2Model" "goalLoop" "[I" ∈ wzX12_jump := List.mem_cons_of_mem _ (List.mem_append_left _ (List.mem_of_getElem? (i := 8) rfl))
theorem k_X12_jump_fieldLink_RX12_135_SRModel_goalSort_I : Cond.fieldLink RX12 135 "StatementRules2Model" "goalSort" "[I" ∈ wzX12_jump := List.mem_cons_of_mem _ (List.mem_append_left _ (List.mem_of_getElem? (i := 9) rfl))
theorem k_X12_jump_fieldLink_RX12_138_SRModel_goalName_J : Cond.fieldLink RX12 138 "StatementRules2Model" "goalName" "[J" ∈ wzX12_jump := List.mem_cons_of_mem _ (List.mem_append_left _ (List.mem_of_getElem? (i := 10) rfl))
theorem k_X12_jump_fieldLink_RX12_327_SRModel_name_J : Cond.fieldLink RX12 327 "StatementRules2Model" "name" "J" ∈ wzX12_jump := List.mem_cons_of_mem _ (List.mem_append_left _ (List.mem_of_getElem? (i := 11) rfl))
set_option maxHeartbeats 4000000 in
set_option maxRecDepth 100000 in
theorem j_X12_jump_317 {p : Program} {e : Env} {s : State} {m : MethodId} {args : Array Value} {below : List Frame} {meth : Method} {c : Code} {A : Nat → Prop} (l : Launch) (dC : Nat → ClassId) (dI : Nat → Nat → Nat) (Q : RQ) (N : Nat) (R : RS) (hx : p.tables.exec = Jvm.exec) (hb : c.code = cX12_jump) (hr : meth.sig.returnType = none) (hml : c.maxLocals = 7) (hown : s.vm.findClass RX12 = some m.cls) (hts : ∀ w ∈ wzX12_jump, w.before args s = true) (hlocks : meth.locks = false) (hZ : zAMB s) (hA : ∀ q : Nat, s.heap.size ≤ q → A q) (hK : va_K (dC, dI) vwCl (rT Q) s) : ∀ (σ : RS) (H : Heap) (locs : List Loc) (ls : Array Slot), f_X12_jump_317 N σ = some R → va_P (dC, dI) vwCl (rW Q σ) H → va_D A (rW Q σ) → va_S A s.heap H locs → lv_has ls 7 [(0, .ref Q.h0)] → W p l e ({ frames := 5, cells := 0, slots := 0, locals := 300 }) s m args below meth c H locs 0 0 (MQ below (va_Qv (fun (_ : Unit) => True) (fun (_ : Unit) (t : State) => zPost dC dI A (rW Q R) (rT Q) t) A) args s 0 0 A) (F0 m 317 ls []) := by
  intro σ  H locs ls hf hP hD hS hl
  unfold f_X12_jump_317 at hf
  refine lv_aload_n hx hb dX12_jump_317 rfl (lv_at hl 0 rfl) ?_
  refine lv_bipush (v := 59) hx hb dX12_jump_318 (by decide) ?_
  obtain ⟨p18, hcp18, hf⟩ := hf_bind hf
  have hFc := r_free hD hS hA
  refine va_calli (va_runV (As := [.int 59]) (rest := []) ⟨hx, hb, hml, hown, hts⟩ (c_X12_need l dC dI _ Q N σ 59 p18 hcp18) (cwV 1 hts hX12_jump_X12_need_v355 rfl rfl rfl (by decide +kernel) ⟨Nat.le_of_ble_eq_true rfl, Nat.le_of_ble_eq_true rfl⟩) ⟨zPre.blind, va_recv hK hP (ci := 11) (q0 := 0) rfl rfl, zPre.go hZ hP hK hD⟩ rfl rfl hl.1 rfl (lv_room (Nat.le_of_ble_eq_true rfl)) dX12_jump_320 ⟨Nat.le_of_ble_eq_true rfl, Nat.le_of_ble_eq_true rfl⟩) hS (fun q _ h => hFc q h) hFc (fun r19 u9 t9 H1 locs ht hvm hw hB hz1 hk1 hS => ?_)
  obtain ⟨hP, hK1, hD1⟩ := hB
  rw [ht] at hP
  have hD := hD1.weaken (fun _ _ _ h => hFc _ h)
  generalize H1 = H at hP hS ⊢
  obtain rfl : r19 = p18.1 := hw
  refine lv_pop hx hb dX12_jump_323 rfl ?_
  obtain rfl := Option.some.inj hf
  exact W.vret hx hb hr (fun t ht hW => ⟨⟨(), rfl, trivial, by rw [ht]; exact hP, va_K.moved hW.alike hK, hD⟩, hS.F ht⟩) hS.2.2 dX12_jump_324
set_option maxHeartbeats 4000000 in
set_option maxRecDepth 100000 in
theorem j_X12_jump_302 {p : Program} {e : Env} {s : State} {m : MethodId} {args : Array Value} {below : List Frame} {meth : Method} {c : Code} {A : Nat → Prop} (l : Launch) (dC : Nat → ClassId) (dI : Nat → Nat → Nat) (Q : RQ) (N : Nat) (R : RS) (hx : p.tables.exec = Jvm.exec) (hb : c.code = cX12_jump) (hr : meth.sig.returnType = none) (hml : c.maxLocals = 7) (hown : s.vm.findClass RX12 = some m.cls) (hts : ∀ w ∈ wzX12_jump, w.before args s = true) (hlocks : meth.locks = false) (hZ : zAMB s) (hA : ∀ q : Nat, s.heap.size ≤ q → A q) (hK : va_K (dC, dI) vwCl (rT Q) s) : ∀ (σ : RS) (x1 : Int32) (x3 : Int32) (x4 : Int32) (H : Heap) (locs : List Loc) (ls : Array Slot), f_X12_jump_302 N σ x1 x3 x4 = some R → va_P (dC, dI) vwCl (rW Q σ) H → va_D A (rW Q σ) → va_S A s.heap H locs → lv_has ls 7 [(0, .ref Q.h0), (1, .int x1), (3, .int x3), (4, .int x4)] → W p l e ({ frames := 5, cells := 0, slots := 0, locals := 300 }) s m args below meth c H locs 0 0 (MQ below (va_Qv (fun (_ : Unit) => True) (fun (_ : Unit) (t : State) => zPost dC dI A (rW Q R) (rT Q) t) A) args s 0 0 A) (F0 m 302 ls []) := by
  intro σ x1 x3 x4 H locs ls hf hP hD hS hl
  unfold f_X12_jump_302 at hf
  refine lv_aload_n hx hb dX12_jump_302 rfl (lv_at hl 0 rfl) ?_
  refine lv_iload hx hb dX12_jump_303 (lv_at hl 3 rfl) ?_
  refine lv_iload_n hx hb dX12_jump_305 rfl (lv_at hl 1 rfl) ?_
  obtain ⟨p15, hcp15, hf⟩ := hf_bind hf
  have hFc := r_free hD hS hA
  refine va_callv (va_runV (As := [.int x4, .int x1]) (rest := []) ⟨hx, hb, hml, hown, hts⟩ (c_X12_pend l dC dI _ Q N σ x4 x1 p15 hcp15) (cwV 2 hts hX12_jump_X12_pend_v530 rfl rfl rfl (by decide +kernel) ⟨Nat.le_of_ble_eq_true rfl, Nat.le_of_ble_eq_true rfl⟩) ⟨zPre.blind, va_recv hK hP (ci := 11) (q0 := 0) rfl rfl, zPre.go hZ hP hK hD⟩ rfl rfl hl.1 rfl (lv_room (Nat.le_of_ble_eq_true rfl)) dX12_jump_306 ⟨Nat.le_of_ble_eq_true rfl, Nat.le_of_ble_eq_true rfl⟩) hS (fun q _ h => hFc q h) hFc (fun u9 t9 H1 locs ht hvm hw hB hz1 hk1 hS => ?_)
  obtain ⟨hP, hK1, hD1⟩ := hB
  rw [ht] at hP
  have hD := hD1.weaken (fun _ _ _ h => hFc _ h)
  generalize H1 = H at hP hS ⊢
  refine lv_iload_n hx hb dX12_jump_309 rfl (lv_at hl 2 rfl) ?_
  refine lv_if_eq (tgt := 317) hx hb dX12_jump_310 (by decide) (fun c17 => ?_) (fun c17 => ?_)
  ·
    replace hf := (if_pos c17).symm.trans hf
    exact j_X12_jump_317 l dC dI Q N R hx hb hr hml hown hts hlocks hZ hA hK p15 _ _ _ hf hP hD hS (lv_sub hl [0] rfl)
  ·
    replace hf := (if_neg c17).symm.trans hf
    refine lv_aload_n hx hb dX12_jump_313 rfl (lv_at hl 0 rfl) ?_
    obtain ⟨p20, hcp20, hf⟩ := hf_bind hf
    have hFc := r_free hD hS hA
    refine va_callv (va_runV (As := []) (rest := []) ⟨hx, hb, hml, hown, hts⟩ (c_X12_next l dC dI _ Q N p15 p20 hcp20) (cwV 0 hts hX12_jump_X12_next_v345 rfl rfl rfl (by decide +kernel) ⟨Nat.le_of_ble_eq_true rfl, Nat.le_of_ble_eq_true rfl⟩) ⟨zPre.blind, va_recv hK hP (ci := 11) (q0 := 0) rfl rfl, zPre.go hZ hP hK hD⟩ rfl rfl hl.1 rfl (lv_room (Nat.le_of_ble_eq_true rfl)) dX12_jump_314 ⟨Nat.le_of_ble_eq_true rfl, Nat.le_of_ble_eq_true rfl⟩) hS (fun q _ h => hFc q h) hFc (fun u9 t9 H1 locs ht hvm hw hB hz1 hk1 hS => ?_)
    obtain ⟨hP, hK1, hD1⟩ := hB
    rw [ht] at hP
    have hD := hD1.weaken (fun _ _ _ h => hFc _ h)
    generalize H1 = H at hP hS ⊢
    exact j_X12_jump_317 l dC dI Q N R hx hb hr hml hown hts hlocks hZ hA hK p20 _ _ _ hf hP hD hS (lv_sub hl [0] rfl)
set_option maxHeartbeats 4000000 in
set_option maxRecDepth 100000 in
theorem j_X12_jump_263 {p : Program} {e : Env} {s : State} {m : MethodId} {args : Array Value} {below : List Frame} {meth : Method} {c : Code} {A : Nat → Prop} (l : Launch) (dC : Nat → ClassId) (dI : Nat → Nat → Nat) (Q : RQ) (N : Nat) (R : RS) (hx : p.tables.exec = Jvm.exec) (hb : c.code = cX12_jump) (hr : meth.sig.returnType = none) (hml : c.maxLocals = 7) (hown : s.vm.findClass RX12 = some m.cls) (hts : ∀ w ∈ wzX12_jump, w.before args s = true) (hlocks : meth.locks = false) (hZ : zAMB s) (hA : ∀ q : Nat, s.heap.size ≤ q → A q) (hK : va_K (dC, dI) vwCl (rT Q) s) : ∀ (σ : RS) (x1 : Int32) (x3 : Int32) (x4 : Int32) (x5 : Int32) (H : Heap) (locs : List Loc) (ls : Array Slot), f_X12_jump_263 N σ x1 x3 x4 x5 = some R → va_P (dC, dI) vwCl (rW Q σ) H → va_D A (rW Q σ) → va_S A s.heap H locs → lv_has ls 7 [(0, .ref Q.h0), (1, .int x1), (3, .int x3), (4, .int x4), (5, .int x5)] → W p l e ({ frames := 5, cells := 0, slots := 0, locals := 300 }) s m args below meth c H locs 0 0 (MQ below (va_Qv (fun (_ : Unit) => True) (fun (_ : Unit) (t : State) => zPost dC dI A (rW Q R) (rT Q) t) A) args s 0 0 A) (F0 m 263 ls []) := by
  intro σ x1 x3 x4 x5 H locs ls hf hP hD hS hl
  unfold f_X12_jump_263 at hf
  refine lv_aload_n hx hb dX12_jump_263 rfl (lv_at hl 0 rfl) ?_
  refine rG_23 hx hb hts i_X12_jump_X12 hown hK hP (hts (.fieldLink RX12 90 "StatementRules2Model" "iy" "[I") k_X12_jump_fieldLink_RX12_90_SRModel_iy_I) dX12_jump_264 ?_
  refine lv_iload hx hb dX12_jump_267 (lv_at hl 4 rfl) ?_
  refine lv_aload_n hx hb dX12_jump_269 rfl (lv_at hl 0 rfl) ?_
  refine rG_47 hx hb hts i_X12_jump_X12 hown hK hP (hts (.fieldLink RX12 144 "StatementRules2Model" "goalDepth" "[I") k_X12_jump_fieldLink_RX12_144_SRModel_goalDepth_I) dX12_jump_270 ?_
  refine lv_iload hx hb dX12_jump_273 (lv_at hl 3 rfl) ?_
  obtain ⟨b12, hf⟩ := hf_ite hf
  refine rL_47 (v := (σ.a 47 ((x4 : Int32).toNatClampNeg))) hx hb hK hP b12 dX12_jump_275 rfl ?_
  obtain ⟨b13, hf⟩ := hf_ite hf
  refine rS_23 hx hb hK hP hD hS b13 dX12_jump_276 (fun H locs hP hD hS => ?_)
  refine lv_iload_n hx hb dX12_jump_277 rfl (lv_at hl 1 rfl) ?_
  refine lv_if_eq (tgt := 293) hx hb dX12_jump_278 (by decide) (fun c14 => ?_) (fun c14 => ?_)
  ·
    replace hf := (if_pos c14).symm.trans hf
    refine lv_aload_n hx hb dX12_jump_293 rfl (lv_at hl 0 rfl) ?_
    refine rG_49 hx hb hts i_X12_jump_X12 hown hK hP (hts (.fieldLink RX12 150 "StatementRules2Model" "continues" "[I") k_X12_jump_fieldLink_RX12_150_SRModel_continues_I) dX12_jump_294 ?_
    refine lv_iload hx hb dX12_jump_297 (lv_at hl 3 rfl) ?_
    refine lv_iload hx hb dX12_jump_299 (lv_at hl 4 rfl) ?_
    refine rS_49 hx hb hK hP hD hS b12 dX12_jump_301 (fun H locs hP hD hS => ?_)
    exact j_X12_jump_302 l dC dI Q N R hx hb hr hml hown hts hlocks hZ hA hK (RS.setA (RS.setA σ 23 ((x5 : Int32).toNatClampNeg) (σ.a 47 ((x4 : Int32).toNatClampNeg))) 49 ((x4 : Int32).toNatClampNeg) x5) x1 x3 x4 _ _ _ hf hP hD hS (lv_sub hl [0, 1, 2, 3] rfl)
  ·
    replace hf := (if_neg c14).symm.trans hf
    refine lv_aload_n hx hb dX12_jump_281 rfl (lv_at hl 0 rfl) ?_
    refine rG_48 hx hb hts i_X12_jump_X12 hown hK hP (hts (.fieldLink RX12 147 "StatementRules2Model" "breaks" "[I") k_X12_jump_fieldLink_RX12_147_SRModel_breaks_I) dX12_jump_282 ?_
    refine lv_iload hx hb dX12_jump_285 (lv_at hl 3 rfl) ?_
    refine lv_iload hx hb dX12_jump_287 (lv_at hl 4 rfl) ?_
    refine rS_48 hx hb hK hP hD hS b12 dX12_jump_289 (fun H locs hP hD hS => ?_)
    refine lv_goto (tgt := 302) hx hb dX12_jump_290 (by decide) ?_
    exact j_X12_jump_302 l dC dI Q N R hx hb hr hml hown hts hlocks hZ hA hK (RS.setA (RS.setA σ 23 ((x5 : Int32).toNatClampNeg) (σ.a 47 ((x4 : Int32).toNatClampNeg))) 48 ((x4 : Int32).toNatClampNeg) x5) x1 x3 x4 _ _ _ hf hP hD hS (lv_sub hl [0, 1, 2, 3] rfl)
set_option maxHeartbeats 4000000 in
set_option maxRecDepth 100000 in
theorem j_X12_jump_234 {p : Program} {e : Env} {s : State} {m : MethodId} {args : Array Value} {below : List Frame} {meth : Method} {c : Code} {A : Nat → Prop} (l : Launch) (dC : Nat → ClassId) (dI : Nat → Nat → Nat) (Q : RQ) (N : Nat) (R : RS) (hx : p.tables.exec = Jvm.exec) (hb : c.code = cX12_jump) (hr : meth.sig.returnType = none) (hml : c.maxLocals = 7) (hown : s.vm.findClass RX12 = some m.cls) (hts : ∀ w ∈ wzX12_jump, w.before args s = true) (hlocks : meth.locks = false) (hZ : zAMB s) (hA : ∀ q : Nat, s.heap.size ≤ q → A q) (hK : va_K (dC, dI) vwCl (rT Q) s) : ∀ (σ : RS) (x1 : Int32) (x3 : Int32) (x4 : Int32) (H : Heap) (locs : List Loc) (ls : Array Slot), f_X12_jump_234 N σ x1 x3 x4 = some R → va_P (dC, dI) vwCl (rW Q σ) H → va_D A (rW Q σ) → va_S A s.heap H locs → lv_has ls 7 [(0, .ref Q.h0), (1, .int x1), (3, .int x3), (4, .int x4)] → W p l e ({ frames := 5, cells := 0, slots := 0, locals := 300 }) s m args below meth c H locs 0 0 (MQ below (va_Qv (fun (_ : Unit) => True) (fun (_ : Unit) (t : State) => zPost dC dI A (rW Q R) (rT Q) t) A) args s 0 0 A) (F0 m 234 ls []) := by
  intro σ x1 x3 x4 H locs ls hf hP hD hS hl
  unfold f_X12_jump_234 at hf
  refine lv_aload_n hx hb dX12_jump_234 rfl (lv_at hl 0 rfl) ?_
  refine lv_bipush (v := 36) hx hb dX12_jump_235 (by decide) ?_
  refine lv_iload_n hx hb dX12_jump_237 rfl (lv_at hl 1 rfl) ?_
  refine lv_if_eq (tgt := 251) hx hb dX12_jump_238 (by decide) (fun c8 => ?_) (fun c8 => ?_)
  ·
    replace hf := (if_pos c8).symm.trans hf
    refine lv_aload_n hx hb dX12_jump_251 rfl (lv_at hl 0 rfl) ?_
    refine rG_49 hx hb hts i_X12_jump_X12 hown hK hP (hts (.fieldLink RX12 150 "StatementRules2Model" "continues" "[I") k_X12_jump_fieldLink_RX12_150_SRModel_continues_I) dX12_jump_252 ?_
    refine lv_iload hx hb dX12_jump_255 (lv_at hl 3 rfl) ?_
    obtain ⟨b9, hf⟩ := hf_ite hf
    refine rL_49 (v := (σ.a 49 ((x4 : Int32).toNatClampNeg))) hx hb hK hP b9 dX12_jump_257 rfl ?_
    obtain ⟨p10, hcp10, hf⟩ := hf_bind hf
    have hFc := r_free hD hS hA
    refine va_calli (va_runV (As := [.int 36, .int (σ.a 49 ((x4 : Int32).toNatClampNeg))]) (rest := []) ⟨hx, hb, hml, hown, hts⟩ (c_X12_emit l dC dI _ Q N σ 36 (σ.a 49 ((x4 : Int32).toNatClampNeg)) p10 hcp10) (cwV 2 hts hX12_jump_X12_emit_v464 rfl rfl rfl (by decide +kernel) ⟨Nat.le_of_ble_eq_true rfl, Nat.le_of_ble_eq_true rfl⟩) ⟨zPre.blind, va_recv hK hP (ci := 11) (q0 := 0) rfl rfl, zPre.go hZ hP hK hD⟩ rfl rfl hl.1 rfl (lv_room (Nat.le_of_ble_eq_true rfl)) dX12_jump_258 ⟨Nat.le_of_ble_eq_true rfl, Nat.le_of_ble_eq_true rfl⟩) hS (fun q _ h => hFc q h) hFc (fun r11 u9 t9 H1 locs ht hvm hw hB hz1 hk1 hS => ?_)
    obtain ⟨hP, hK1, hD1⟩ := hB
    rw [ht] at hP
    have hD := hD1.weaken (fun _ _ _ h => hFc _ h)
    generalize H1 = H at hP hS ⊢
    obtain rfl : r11 = p10.1 := hw
    refine lv_istore (lv' := [(5, .int p10.1), (0, .ref Q.h0), (1, .int x1), (3, .int x3), (4, .int x4)]) hx hb dX12_jump_261 hl (by decide) rfl (fun ls hl => ?_)
    exact j_X12_jump_263 l dC dI Q N R hx hb hr hml hown hts hlocks hZ hA hK p10.2 x1 x3 x4 p10.1 _ _ _ hf hP hD hS (lv_sub hl [1, 2, 3, 4, 0] rfl)
  ·
    replace hf := (if_neg c8).symm.trans hf
    refine lv_aload_n hx hb dX12_jump_241 rfl (lv_at hl 0 rfl) ?_
    refine rG_48 hx hb hts i_X12_jump_X12 hown hK hP (hts (.fieldLink RX12 147 "StatementRules2Model" "breaks" "[I") k_X12_jump_fieldLink_RX12_147_SRModel_breaks_I) dX12_jump_242 ?_
    refine lv_iload hx hb dX12_jump_245 (lv_at hl 3 rfl) ?_
    obtain ⟨b22, hf⟩ := hf_ite hf
    refine rL_48 (v := (σ.a 48 ((x4 : Int32).toNatClampNeg))) hx hb hK hP b22 dX12_jump_247 rfl ?_
    refine lv_goto (tgt := 258) hx hb dX12_jump_248 (by decide) ?_
    obtain ⟨p23, hcp23, hf⟩ := hf_bind hf
    have hFc := r_free hD hS hA
    refine va_calli (va_runV (As := [.int 36, .int (σ.a 48 ((x4 : Int32).toNatClampNeg))]) (rest := []) ⟨hx, hb, hml, hown, hts⟩ (c_X12_emit l dC dI _ Q N σ 36 (σ.a 48 ((x4 : Int32).toNatClampNeg)) p23 hcp23) (cwV 2 hts hX12_jump_X12_emit_v464 rfl rfl rfl (by decide +kernel) ⟨Nat.le_of_ble_eq_true rfl, Nat.le_of_ble_eq_true rfl⟩) ⟨zPre.blind, va_recv hK hP (ci := 11) (q0 := 0) rfl rfl, zPre.go hZ hP hK hD⟩ rfl rfl hl.1 rfl (lv_room (Nat.le_of_ble_eq_true rfl)) dX12_jump_258 ⟨Nat.le_of_ble_eq_true rfl, Nat.le_of_ble_eq_true rfl⟩) hS (fun q _ h => hFc q h) hFc (fun r24 u9 t9 H1 locs ht hvm hw hB hz1 hk1 hS => ?_)
    obtain ⟨hP, hK1, hD1⟩ := hB
    rw [ht] at hP
    have hD := hD1.weaken (fun _ _ _ h => hFc _ h)
    generalize H1 = H at hP hS ⊢
    obtain rfl : r24 = p23.1 := hw
    refine lv_istore (lv' := [(5, .int p23.1), (0, .ref Q.h0), (1, .int x1), (3, .int x3), (4, .int x4)]) hx hb dX12_jump_261 hl (by decide) rfl (fun ls hl => ?_)
    exact j_X12_jump_263 l dC dI Q N R hx hb hr hml hown hts hlocks hZ hA hK p23.2 x1 x3 x4 p23.1 _ _ _ hf hP hD hS (lv_sub hl [1, 2, 3, 4, 0] rfl)
set_option maxHeartbeats 4000000 in
set_option maxRecDepth 100000 in
theorem j_X12_jump_171 {p : Program} {e : Env} {s : State} {m : MethodId} {args : Array Value} {below : List Frame} {meth : Method} {c : Code} {A : Nat → Prop} (l : Launch) (dC : Nat → ClassId) (dI : Nat → Nat → Nat) (Q : RQ) (N : Nat) (R : RS) (hx : p.tables.exec = Jvm.exec) (hb : c.code = cX12_jump) (hr : meth.sig.returnType = none) (hml : c.maxLocals = 7) (hown : s.vm.findClass RX12 = some m.cls) (hts : ∀ w ∈ wzX12_jump, w.before args s = true) (hlocks : meth.locks = false) (hZ : zAMB s) (hA : ∀ q : Nat, s.heap.size ≤ q → A q) (hK : va_K (dC, dI) vwCl (rT Q) s) : ∀ (σ : RS) (x1 : Int32) (x2 : Int32) (x3 : Int32) (x4 : Int32) (H : Heap) (locs : List Loc) (ls : Array Slot), f_X12_jump_171 N σ x1 x2 x3 x4 = some R → va_P (dC, dI) vwCl (rW Q σ) H → va_D A (rW Q σ) → va_S A s.heap H locs → lv_has ls 7 [(0, .ref Q.h0), (1, .int x1), (2, .int x2), (3, .int x3), (4, .int x4)] → W p l e ({ frames := 5, cells := 0, slots := 0, locals := 300 }) s m args below meth c H locs 0 0 (MQ below (va_Qv (fun (_ : Unit) => True) (fun (_ : Unit) (t : State) => zPost dC dI A (rW Q R) (rT Q) t) A) args s 0 0 A) (F0 m 171 ls []) := by
  intro σ x1 x2 x3 x4 H locs ls hf hP hD hS hl
  unfold f_X12_jump_171 at hf
  refine lv_iload hx hb dX12_jump_171 (lv_at hl 4 rfl) ?_
  refine lv_if_ge (tgt := 202) hx hb dX12_jump_173 (by decide) (fun c6 => ?_) (fun c6 => ?_)
  ·
    replace hf := (if_pos c6).symm.trans hf
    refine lv_iload_n hx hb dX12_jump_202 rfl (lv_at hl 3 rfl) ?_
    refine lv_if_eq (tgt := 234) hx hb dX12_jump_203 (by decide) (fun c7 => ?_) (fun c7 => ?_)
    ·
      replace hf := (if_pos c7).symm.trans hf
      exact j_X12_jump_234 l dC dI Q N R hx hb hr hml hown hts hlocks hZ hA hK σ x1 x3 x4 _ _ _ hf hP hD hS (lv_sub hl [0, 1, 3, 4] rfl)
    ·
      replace hf := (if_neg c7).symm.trans hf
      refine lv_iload_n hx hb dX12_jump_206 rfl (lv_at hl 1 rfl) ?_
      refine lv_if_ne (tgt := 234) hx hb dX12_jump_207 (by decide) (fun c25 => ?_) (fun c25 => ?_)
      ·
        replace hf := (if_neg c25).symm.trans hf
        exact j_X12_jump_234 l dC dI Q N R hx hb hr hml hown hts hlocks hZ hA hK σ x1 x3 x4 _ _ _ hf hP hD hS (lv_sub hl [0, 1, 3, 4] rfl)
      ·
        replace hf := (if_pos c25).symm.trans hf
        refine lv_aload_n hx hb dX12_jump_210 rfl (lv_at hl 0 rfl) ?_
        refine rG_46 hx hb hts i_X12_jump_X12 hown hK hP (hts (.fieldLink RX12 141 "StatementRules2Model" "goalLoop" "[I") k_X12_jump_fieldLink_RX12_141_SRModel_goalLoop_I) dX12_jump_211 ?_
        refine lv_iload hx hb dX12_jump_214 (lv_at hl 4 rfl) ?_
        obtain ⟨b26, hf⟩ := hf_ite hf
        refine rL_46 (v := (σ.a 46 ((x4 : Int32).toNatClampNeg))) hx hb hK hP b26 dX12_jump_216 rfl ?_
        refine lv_istore (lv' := [(4, .int (σ.a 46 ((x4 : Int32).toNatClampNeg))), (0, .ref Q.h0), (1, .int x1), (2, .int x2), (3, .int x3)]) hx hb dX12_jump_217 hl (by decide) rfl (fun ls hl => ?_)
        refine lv_iload hx hb dX12_jump_219 (lv_at hl 0 rfl) ?_
        refine lv_if_ge (tgt := 234) hx hb dX12_jump_221 (by decide) (fun c27 => ?_) (fun c27 => ?_)
        ·
          replace hf := (if_pos c27).symm.trans hf
          exact j_X12_jump_234 l dC dI Q N R hx hb hr hml hown hts hlocks hZ hA hK σ x1 x3 (σ.a 46 ((x4 : Int32).toNatClampNeg)) _ _ _ hf hP hD hS (lv_sub hl [1, 2, 4, 0] rfl)
        ·
          replace hf := (if_neg c27).symm.trans hf
          refine lv_aload_n hx hb dX12_jump_224 rfl (lv_at hl 1 rfl) ?_
          refine lv_iconst (v := 5) hx hb dX12_jump_225 (by decide) ?_
          refine lv_aload_n hx hb dX12_jump_226 rfl (lv_at hl 1 rfl) ?_
          refine rG_11 (v := (σ.i 11)) hx hb hts i_X12_jump_X12 hown hK hP (hts (.fieldLink RX12 304 "StatementRules2Model" "from" "I") k_X12_jump_fieldLink_RX12_304_SRModel_from_I) dX12_jump_227 rfl ?_
          obtain ⟨p28, hcp28, hf⟩ := hf_bind hf
          have hFc := r_free hD hS hA
          refine va_callv (va_runV (As := [.int 5, .int (σ.i 11)]) (rest := []) ⟨hx, hb, hml, hown, hts⟩ (c_X12_fail l dC dI _ Q N σ 5 (σ.i 11) p28 hcp28) (cwV 2 hts hX12_jump_X12_fail_v337 rfl rfl rfl (by decide +kernel) ⟨Nat.le_of_ble_eq_true rfl, Nat.le_of_ble_eq_true rfl⟩) ⟨zPre.blind, va_recv hK hP (ci := 11) (q0 := 0) rfl rfl, zPre.go hZ hP hK hD⟩ rfl rfl hl.1 rfl (lv_room (Nat.le_of_ble_eq_true rfl)) dX12_jump_230 ⟨Nat.le_of_ble_eq_true rfl, Nat.le_of_ble_eq_true rfl⟩) hS (fun q _ h => hFc q h) hFc (fun u9 t9 H1 locs ht hvm hw hB hz1 hk1 hS => ?_)
          obtain ⟨hP, hK1, hD1⟩ := hB
          rw [ht] at hP
          have hD := hD1.weaken (fun _ _ _ h => hFc _ h)
          generalize H1 = H at hP hS ⊢
          obtain rfl := Option.some.inj hf
          exact W.vret hx hb hr (fun t ht hW => ⟨⟨(), rfl, trivial, by rw [ht]; exact hP, va_K.moved hW.alike hK, hD⟩, hS.F ht⟩) hS.2.2 dX12_jump_233
  ·
    replace hf := (if_neg c6).symm.trans hf
    refine lv_aload_n hx hb dX12_jump_176 rfl (lv_at hl 0 rfl) ?_
    refine lv_iload_n hx hb dX12_jump_177 rfl (lv_at hl 3 rfl) ?_
    refine lv_if_eq (tgt := 185) hx hb dX12_jump_178 (by decide) (fun c30 => ?_) (fun c30 => ?_)
    ·
      replace hf := (if_pos c30).symm.trans hf
      refine lv_iconst (v := 5) hx hb dX12_jump_185 (by decide) ?_
      refine lv_iload_n hx hb dX12_jump_186 rfl (lv_at hl 3 rfl) ?_
      refine lv_if_eq (tgt := 197) hx hb dX12_jump_187 (by decide) (fun _ => ?_) (fun c9 => absurd c30 c9)
      refine lv_iload_n hx hb dX12_jump_197 rfl (lv_at hl 2 rfl) ?_
      obtain ⟨p32, hcp32, hf⟩ := hf_bind hf
      have hFc := r_free hD hS hA
      refine va_callv (va_runV (As := [.int 5, .int x2]) (rest := []) ⟨hx, hb, hml, hown, hts⟩ (c_X12_fail l dC dI _ Q N σ 5 x2 p32 hcp32) (cwV 2 hts hX12_jump_X12_fail_v337 rfl rfl rfl (by decide +kernel) ⟨Nat.le_of_ble_eq_true rfl, Nat.le_of_ble_eq_true rfl⟩) ⟨zPre.blind, va_recv hK hP (ci := 11) (q0 := 0) rfl rfl, zPre.go hZ hP hK hD⟩ rfl rfl hl.1 rfl (lv_room (Nat.le_of_ble_eq_true rfl)) dX12_jump_198 ⟨Nat.le_of_ble_eq_true rfl, Nat.le_of_ble_eq_true rfl⟩) hS (fun q _ h => hFc q h) hFc (fun u9 t9 H1 locs ht hvm hw hB hz1 hk1 hS => ?_)
      obtain ⟨hP, hK1, hD1⟩ := hB
      rw [ht] at hP
      have hD := hD1.weaken (fun _ _ _ h => hFc _ h)
      generalize H1 = H at hP hS ⊢
      obtain rfl := Option.some.inj hf
      exact W.vret hx hb hr (fun t ht hW => ⟨⟨(), rfl, trivial, by rw [ht]; exact hP, va_K.moved hW.alike hK, hD⟩, hS.F ht⟩) hS.2.2 dX12_jump_201
    ·
      replace hf := (if_neg c30).symm.trans hf
      refine lv_iconst (v := 3) hx hb dX12_jump_181 (by decide) ?_
      refine lv_goto (tgt := 186) hx hb dX12_jump_182 (by decide) ?_
      refine lv_iload_n hx hb dX12_jump_186 rfl (lv_at hl 3 rfl) ?_
      refine lv_if_eq (tgt := 197) hx hb dX12_jump_187 (by decide) (fun c9 => absurd c9 c30) (fun _ => ?_)
      refine lv_aload_n hx hb dX12_jump_190 rfl (lv_at hl 0 rfl) ?_
      refine rG_11 (v := (σ.i 11)) hx hb hts i_X12_jump_X12 hown hK hP (hts (.fieldLink RX12 304 "StatementRules2Model" "from" "I") k_X12_jump_fieldLink_RX12_304_SRModel_from_I) dX12_jump_191 rfl ?_
      refine lv_goto (tgt := 198) hx hb dX12_jump_194 (by decide) ?_
      obtain ⟨p35, hcp35, hf⟩ := hf_bind hf
      have hFc := r_free hD hS hA
      refine va_callv (va_runV (As := [.int 3, .int (σ.i 11)]) (rest := []) ⟨hx, hb, hml, hown, hts⟩ (c_X12_fail l dC dI _ Q N σ 3 (σ.i 11) p35 hcp35) (cwV 2 hts hX12_jump_X12_fail_v337 rfl rfl rfl (by decide +kernel) ⟨Nat.le_of_ble_eq_true rfl, Nat.le_of_ble_eq_true rfl⟩) ⟨zPre.blind, va_recv hK hP (ci := 11) (q0 := 0) rfl rfl, zPre.go hZ hP hK hD⟩ rfl rfl hl.1 rfl (lv_room (Nat.le_of_ble_eq_true rfl)) dX12_jump_198 ⟨Nat.le_of_ble_eq_true rfl, Nat.le_of_ble_eq_true rfl⟩) hS (fun q _ h => hFc q h) hFc (fun u9 t9 H1 locs ht hvm hw hB hz1 hk1 hS => ?_)
      obtain ⟨hP, hK1, hD1⟩ := hB
      rw [ht] at hP
      have hD := hD1.weaken (fun _ _ _ h => hFc _ h)
      generalize H1 = H at hP hS ⊢
      obtain rfl := Option.some.inj hf
      exact W.vret hx hb hr (fun t ht hW => ⟨⟨(), rfl, trivial, by rw [ht]; exact hP, va_K.moved hW.alike hK, hD⟩, hS.F ht⟩) hS.2.2 dX12_jump_201
set_option maxHeartbeats 4000000 in
set_option maxRecDepth 100000 in
theorem j_X12_jump_60 {p : Program} {e : Env} {s : State} {m : MethodId} {args : Array Value} {below : List Frame} {meth : Method} {c : Code} {A : Nat → Prop} (l : Launch) (dC : Nat → ClassId) (dI : Nat → Nat → Nat) (Q : RQ) (N : Nat) (R : RS) (hx : p.tables.exec = Jvm.exec) (hb : c.code = cX12_jump) (hr : meth.sig.returnType = none) (hml : c.maxLocals = 7) (hown : s.vm.findClass RX12 = some m.cls) (hts : ∀ w ∈ wzX12_jump, w.before args s = true) (hlocks : meth.locks = false) (hZ : zAMB s) (hA : ∀ q : Nat, s.heap.size ≤ q → A q) (hK : va_K (dC, dI) vwCl (rT Q) s) : ∀ (n9 : Nat), ∀ (σ : RS) (x1 : Int32) (x2 : Int32) (x3 : Int32) (x4 : Int32) (x5 : Int32) (H : Heap) (locs : List Loc) (ls : Array Slot), f_X12_jump_60 N n9 σ x1 x2 x3 x4 x5 = some R → va_P (dC, dI) vwCl (rW Q σ) H → va_D A (rW Q σ) → va_S A s.heap H locs → lv_has ls 7 [(0, .ref Q.h0), (1, .int x1), (2, .int x2), (3, .int x3), (4, .int x4), (5, .int x5)] → W p l e ({ frames := 5, cells := 0, slots := 0, locals := 300 }) s m args below meth c H locs 0 0 (MQ below (va_Qv (fun (_ : Unit) => True) (fun (_ : Unit) (t : State) => zPost dC dI A (rW Q R) (rT Q) t) A) args s 0 0 A) (F0 m 60 ls []) := by
  intro n9
  induction n9 with
  | zero => intro σ x1 x2 x3 x4 x5 H locs ls hf; exact absurd hf (by intro h9; cases h9)
  | succ n9 ih =>
    intro σ x1 x2 x3 x4 x5 H locs ls hf hP hD hS hl
    replace hf : b_X12_jump_60 N (f_X12_jump_60 N n9) σ x1 x2 x3 x4 x5 = some R := hf
    unfold b_X12_jump_60 at hf
    refine lv_iload hx hb dX12_jump_60 (lv_at hl 5 rfl) ?_
    refine lv_if_lt (tgt := 171) hx hb dX12_jump_62 (by decide) (fun c5 => ?_) (fun c5 => ?_)
    ·
      replace hf := (if_pos c5).symm.trans hf
      exact j_X12_jump_171 l dC dI Q N R hx hb hr hml hown hts hlocks hZ hA hK σ x1 x2 x3 x4 _ _ _ hf hP hD hS (lv_sub hl [0, 1, 2, 3, 4] rfl)
    ·
      replace hf := (if_neg c5).symm.trans hf
      refine lv_aload_n hx hb dX12_jump_65 rfl (lv_at hl 0 rfl) ?_
      refine rG_44 hx hb hts i_X12_jump_X12 hown hK hP (hts (.fieldLink RX12 135 "StatementRules2Model" "goalSort" "[I") k_X12_jump_fieldLink_RX12_135_SRModel_goalSort_I) dX12_jump_66 ?_
      refine lv_iload hx hb dX12_jump_69 (lv_at hl 5 rfl) ?_
      obtain ⟨b37, hf⟩ := hf_ite hf
      refine rL_44 (v := (σ.a 44 ((x5 : Int32).toNatClampNeg))) hx hb hK hP b37 dX12_jump_71 rfl ?_
      refine lv_iconst (v := 3) hx hb dX12_jump_72 (by decide) ?_
      refine lv_icmp_eq (tgt := 171) hx hb dX12_jump_73 (by decide) (fun c38 => ?_) (fun c38 => ?_)
      ·
        replace hf := (if_pos c38).symm.trans hf
        exact j_X12_jump_171 l dC dI Q N R hx hb hr hml hown hts hlocks hZ hA hK σ x1 x2 x3 x4 _ _ _ hf hP hD hS (lv_sub hl [0, 1, 2, 3, 4] rfl)
      ·
        replace hf := (if_neg c38).symm.trans hf
        refine lv_iload hx hb dX12_jump_76 (lv_at hl 4 rfl) ?_
        refine lv_if_ge (tgt := 171) hx hb dX12_jump_78 (by decide) (fun c39 => ?_) (fun c39 => ?_)
        ·
          replace hf := (if_pos c39).symm.trans hf
          exact j_X12_jump_171 l dC dI Q N R hx hb hr hml hown hts hlocks hZ hA hK σ x1 x2 x3 x4 _ _ _ hf hP hD hS (lv_sub hl [0, 1, 2, 3, 4] rfl)
        ·
          replace hf := (if_neg c39).symm.trans hf
          refine lv_iload_n hx hb dX12_jump_81 rfl (lv_at hl 3 rfl) ?_
          refine lv_if_eq (tgt := 119) hx hb dX12_jump_82 (by decide) (fun c40 => ?_) (fun c40 => ?_)
          ·
            replace hf := (if_pos c40).symm.trans hf
            refine lv_aload_n hx hb dX12_jump_119 rfl (lv_at hl 0 rfl) ?_
            refine rG_44 hx hb hts i_X12_jump_X12 hown hK hP (hts (.fieldLink RX12 135 "StatementRules2Model" "goalSort" "[I") k_X12_jump_fieldLink_RX12_135_SRModel_goalSort_I) dX12_jump_120 ?_
            refine lv_iload hx hb dX12_jump_123 (lv_at hl 5 rfl) ?_
            refine rL_44 (v := (σ.a 44 ((x5 : Int32).toNatClampNeg))) hx hb hK hP b37 dX12_jump_125 rfl ?_
            refine lv_if_eq (tgt := 144) hx hb dX12_jump_126 (by decide) (fun c41 => ?_) (fun c41 => ?_)
            ·
              replace hf := (if_pos c41).symm.trans hf
              refine lv_iconst (v := 1) hx hb dX12_jump_144 (by decide) ?_
              refine lv_goto (tgt := 149) hx hb dX12_jump_145 (by decide) ?_
              refine lv_istore (lv' := [(6, .int 1), (0, .ref Q.h0), (1, .int x1), (2, .int x2), (3, .int x3), (4, .int x4), (5, .int x5)]) hx hb dX12_jump_149 hl (by decide) rfl (fun ls hl => ?_)
              refine lv_iload hx hb dX12_jump_151 (lv_at hl 0 rfl) ?_
              refine lv_if_eq (tgt := 161) hx hb dX12_jump_153 (by decide) (fun c9 => absurd c9 (by decide)) (fun _ => ?_)
              refine lv_iload hx hb dX12_jump_156 (lv_at hl 6 rfl) ?_
              refine lv_goto (tgt := 163) hx hb dX12_jump_158 (by decide) ?_
              refine lv_istore (lv' := [(4, .int x5), (6, .int 1), (0, .ref Q.h0), (1, .int x1), (2, .int x2), (3, .int x3), (5, .int x5)]) hx hb dX12_jump_163 hl (by decide) rfl (fun ls hl => ?_)
              refine lv_iinc (v := (x5 + (-1))) (lv' := [(5, .int (x5 + (-1))), (4, .int x5), (6, .int 1), (0, .ref Q.h0), (1, .int x1), (2, .int x2), (3, .int x3)]) hx hb dX12_jump_165 hl (k := 6) rfl rfl (by decide) rfl (fun ls hl => ?_)
              refine lv_goto (tgt := 60) hx hb dX12_jump_168 (by decide) ?_
              exact ih σ x1 x2 x3 x5 (x5 + (-1)) _ _ _ hf hP hD hS (lv_sub hl [3, 4, 5, 6, 1, 0] rfl)
            ·
              replace hf := (if_neg c41).symm.trans hf
              refine lv_iload_n hx hb dX12_jump_129 rfl (lv_at hl 1 rfl) ?_
              refine lv_if_eq (tgt := 148) hx hb dX12_jump_130 (by decide) (fun c42 => ?_) (fun c42 => ?_)
              ·
                replace hf := (if_pos c42).symm.trans hf
                refine lv_iconst (v := 0) hx hb dX12_jump_148 (by decide) ?_
                refine lv_istore (lv' := [(6, .int 0), (0, .ref Q.h0), (1, .int x1), (2, .int x2), (3, .int x3), (4, .int x4), (5, .int x5)]) hx hb dX12_jump_149 hl (by decide) rfl (fun ls hl => ?_)
                refine lv_iload hx hb dX12_jump_151 (lv_at hl 0 rfl) ?_
                refine lv_if_eq (tgt := 161) hx hb dX12_jump_153 (by decide) (fun _ => ?_) (fun c9 => absurd (by decide) c9)
                refine lv_iload hx hb dX12_jump_161 (lv_at hl 5 rfl) ?_
                refine lv_istore (lv' := [(4, .int x4), (6, .int 0), (0, .ref Q.h0), (1, .int x1), (2, .int x2), (3, .int x3), (5, .int x5)]) hx hb dX12_jump_163 hl (by decide) rfl (fun ls hl => ?_)
                refine lv_iinc (v := (x5 + (-1))) (lv' := [(5, .int (x5 + (-1))), (4, .int x4), (6, .int 0), (0, .ref Q.h0), (1, .int x1), (2, .int x2), (3, .int x3)]) hx hb dX12_jump_165 hl (k := 6) rfl rfl (by decide) rfl (fun ls hl => ?_)
                refine lv_goto (tgt := 60) hx hb dX12_jump_168 (by decide) ?_
                exact ih σ x1 x2 x3 x4 (x5 + (-1)) _ _ _ hf hP hD hS (lv_sub hl [3, 4, 5, 6, 1, 0] rfl)
              ·
                replace hf := (if_neg c42).symm.trans hf
                refine lv_aload_n hx hb dX12_jump_133 rfl (lv_at hl 0 rfl) ?_
                refine rG_44 hx hb hts i_X12_jump_X12 hown hK hP (hts (.fieldLink RX12 135 "StatementRules2Model" "goalSort" "[I") k_X12_jump_fieldLink_RX12_135_SRModel_goalSort_I) dX12_jump_134 ?_
                refine lv_iload hx hb dX12_jump_137 (lv_at hl 5 rfl) ?_
                refine rL_44 (v := (σ.a 44 ((x5 : Int32).toNatClampNeg))) hx hb hK hP b37 dX12_jump_139 rfl ?_
                refine lv_iconst (v := 1) hx hb dX12_jump_140 (by decide) ?_
                refine lv_icmp_ne (tgt := 148) hx hb dX12_jump_141 (by decide) (fun c43 => ?_) (fun c43 => ?_)
                ·
                  replace hf := (if_neg c43).symm.trans hf
                  refine lv_iconst (v := 0) hx hb dX12_jump_148 (by decide) ?_
                  refine lv_istore (lv' := [(6, .int 0), (0, .ref Q.h0), (1, .int x1), (2, .int x2), (3, .int x3), (4, .int x4), (5, .int x5)]) hx hb dX12_jump_149 hl (by decide) rfl (fun ls hl => ?_)
                  refine lv_iload hx hb dX12_jump_151 (lv_at hl 0 rfl) ?_
                  refine lv_if_eq (tgt := 161) hx hb dX12_jump_153 (by decide) (fun _ => ?_) (fun c9 => absurd (by decide) c9)
                  refine lv_iload hx hb dX12_jump_161 (lv_at hl 5 rfl) ?_
                  refine lv_istore (lv' := [(4, .int x4), (6, .int 0), (0, .ref Q.h0), (1, .int x1), (2, .int x2), (3, .int x3), (5, .int x5)]) hx hb dX12_jump_163 hl (by decide) rfl (fun ls hl => ?_)
                  refine lv_iinc (v := (x5 + (-1))) (lv' := [(5, .int (x5 + (-1))), (4, .int x4), (6, .int 0), (0, .ref Q.h0), (1, .int x1), (2, .int x2), (3, .int x3)]) hx hb dX12_jump_165 hl (k := 6) rfl rfl (by decide) rfl (fun ls hl => ?_)
                  refine lv_goto (tgt := 60) hx hb dX12_jump_168 (by decide) ?_
                  exact ih σ x1 x2 x3 x4 (x5 + (-1)) _ _ _ hf hP hD hS (lv_sub hl [3, 4, 5, 6, 1, 0] rfl)
                ·
                  replace hf := (if_pos c43).symm.trans hf
                  refine lv_iconst (v := 1) hx hb dX12_jump_144 (by decide) ?_
                  refine lv_goto (tgt := 149) hx hb dX12_jump_145 (by decide) ?_
                  refine lv_istore (lv' := [(6, .int 1), (0, .ref Q.h0), (1, .int x1), (2, .int x2), (3, .int x3), (4, .int x4), (5, .int x5)]) hx hb dX12_jump_149 hl (by decide) rfl (fun ls hl => ?_)
                  refine lv_iload hx hb dX12_jump_151 (lv_at hl 0 rfl) ?_
                  refine lv_if_eq (tgt := 161) hx hb dX12_jump_153 (by decide) (fun c9 => absurd c9 (by decide)) (fun _ => ?_)
                  refine lv_iload hx hb dX12_jump_156 (lv_at hl 6 rfl) ?_
                  refine lv_goto (tgt := 163) hx hb dX12_jump_158 (by decide) ?_
                  refine lv_istore (lv' := [(4, .int x5), (6, .int 1), (0, .ref Q.h0), (1, .int x1), (2, .int x2), (3, .int x3), (5, .int x5)]) hx hb dX12_jump_163 hl (by decide) rfl (fun ls hl => ?_)
                  refine lv_iinc (v := (x5 + (-1))) (lv' := [(5, .int (x5 + (-1))), (4, .int x5), (6, .int 1), (0, .ref Q.h0), (1, .int x1), (2, .int x2), (3, .int x3)]) hx hb dX12_jump_165 hl (k := 6) rfl rfl (by decide) rfl (fun ls hl => ?_)
                  refine lv_goto (tgt := 60) hx hb dX12_jump_168 (by decide) ?_
                  exact ih σ x1 x2 x3 x5 (x5 + (-1)) _ _ _ hf hP hD hS (lv_sub hl [3, 4, 5, 6, 1, 0] rfl)
          ·
            replace hf := (if_neg c40).symm.trans hf
            refine lv_aload_n hx hb dX12_jump_85 rfl (lv_at hl 0 rfl) ?_
            refine rG_44 hx hb hts i_X12_jump_X12 hown hK hP (hts (.fieldLink RX12 135 "StatementRules2Model" "goalSort" "[I") k_X12_jump_fieldLink_RX12_135_SRModel_goalSort_I) dX12_jump_86 ?_
            refine lv_iload hx hb dX12_jump_89 (lv_at hl 5 rfl) ?_
            refine rL_44 (v := (σ.a 44 ((x5 : Int32).toNatClampNeg))) hx hb hK hP b37 dX12_jump_91 rfl ?_
            refine lv_iconst (v := 2) hx hb dX12_jump_92 (by decide) ?_
            refine lv_icmp_ne (tgt := 115) hx hb dX12_jump_93 (by decide) (fun c44 => ?_) (fun c44 => ?_)
            ·
              replace hf := (if_neg c44).symm.trans hf
              refine lv_iconst (v := 0) hx hb dX12_jump_115 (by decide) ?_
              refine lv_goto (tgt := 149) hx hb dX12_jump_116 (by decide) ?_
              refine lv_istore (lv' := [(6, .int 0), (0, .ref Q.h0), (1, .int x1), (2, .int x2), (3, .int x3), (4, .int x4), (5, .int x5)]) hx hb dX12_jump_149 hl (by decide) rfl (fun ls hl => ?_)
              refine lv_iload hx hb dX12_jump_151 (lv_at hl 0 rfl) ?_
              refine lv_if_eq (tgt := 161) hx hb dX12_jump_153 (by decide) (fun _ => ?_) (fun c9 => absurd (by decide) c9)
              refine lv_iload hx hb dX12_jump_161 (lv_at hl 5 rfl) ?_
              refine lv_istore (lv' := [(4, .int x4), (6, .int 0), (0, .ref Q.h0), (1, .int x1), (2, .int x2), (3, .int x3), (5, .int x5)]) hx hb dX12_jump_163 hl (by decide) rfl (fun ls hl => ?_)
              refine lv_iinc (v := (x5 + (-1))) (lv' := [(5, .int (x5 + (-1))), (4, .int x4), (6, .int 0), (0, .ref Q.h0), (1, .int x1), (2, .int x2), (3, .int x3)]) hx hb dX12_jump_165 hl (k := 6) rfl rfl (by decide) rfl (fun ls hl => ?_)
              refine lv_goto (tgt := 60) hx hb dX12_jump_168 (by decide) ?_
              exact ih σ x1 x2 x3 x4 (x5 + (-1)) _ _ _ hf hP hD hS (lv_sub hl [3, 4, 5, 6, 1, 0] rfl)
            ·
              replace hf := (if_pos c44).symm.trans hf
              refine lv_aload_n hx hb dX12_jump_96 rfl (lv_at hl 0 rfl) ?_
              refine rG_45 hx hb hts i_X12_jump_X12 hown hK hP (hts (.fieldLink RX12 138 "StatementRules2Model" "goalName" "[J") k_X12_jump_fieldLink_RX12_138_SRModel_goalName_J) dX12_jump_97 ?_
              refine lv_iload hx hb dX12_jump_100 (lv_at hl 5 rfl) ?_
              refine rL_45 (v := (σ.b 45 ((x5 : Int32).toNatClampNeg))) hx hb hK hP b37 dX12_jump_102 rfl ?_
              refine lv_aload_n hx hb dX12_jump_103 rfl (lv_at hl 0 rfl) ?_
              refine rG_13 (v := σ.l) hx hb hts i_X12_jump_X12 hown hK hP (hts (.fieldLink RX12 327 "StatementRules2Model" "name" "J") k_X12_jump_fieldLink_RX12_327_SRModel_name_J) dX12_jump_104 rfl ?_
              refine W.lcmp hx hb dX12_jump_107 ?_
              refine lv_if_ne (tgt := 115) hx hb dX12_jump_108 (by decide) (fun c45 => ?_) (fun c45 => ?_)
              ·
                replace hf := (if_neg c45).symm.trans hf
                refine lv_iconst (v := 0) hx hb dX12_jump_115 (by decide) ?_
                refine lv_goto (tgt := 149) hx hb dX12_jump_116 (by decide) ?_
                refine lv_istore (lv' := [(6, .int 0), (0, .ref Q.h0), (1, .int x1), (2, .int x2), (3, .int x3), (4, .int x4), (5, .int x5)]) hx hb dX12_jump_149 hl (by decide) rfl (fun ls hl => ?_)
                refine lv_iload hx hb dX12_jump_151 (lv_at hl 0 rfl) ?_
                refine lv_if_eq (tgt := 161) hx hb dX12_jump_153 (by decide) (fun _ => ?_) (fun c9 => absurd (by decide) c9)
                refine lv_iload hx hb dX12_jump_161 (lv_at hl 5 rfl) ?_
                refine lv_istore (lv' := [(4, .int x4), (6, .int 0), (0, .ref Q.h0), (1, .int x1), (2, .int x2), (3, .int x3), (5, .int x5)]) hx hb dX12_jump_163 hl (by decide) rfl (fun ls hl => ?_)
                refine lv_iinc (v := (x5 + (-1))) (lv' := [(5, .int (x5 + (-1))), (4, .int x4), (6, .int 0), (0, .ref Q.h0), (1, .int x1), (2, .int x2), (3, .int x3)]) hx hb dX12_jump_165 hl (k := 6) rfl rfl (by decide) rfl (fun ls hl => ?_)
                refine lv_goto (tgt := 60) hx hb dX12_jump_168 (by decide) ?_
                exact ih σ x1 x2 x3 x4 (x5 + (-1)) _ _ _ hf hP hD hS (lv_sub hl [3, 4, 5, 6, 1, 0] rfl)
              ·
                replace hf := (if_pos c45).symm.trans hf
                refine lv_iconst (v := 1) hx hb dX12_jump_111 (by decide) ?_
                refine lv_goto (tgt := 149) hx hb dX12_jump_112 (by decide) ?_
                refine lv_istore (lv' := [(6, .int 1), (0, .ref Q.h0), (1, .int x1), (2, .int x2), (3, .int x3), (4, .int x4), (5, .int x5)]) hx hb dX12_jump_149 hl (by decide) rfl (fun ls hl => ?_)
                refine lv_iload hx hb dX12_jump_151 (lv_at hl 0 rfl) ?_
                refine lv_if_eq (tgt := 161) hx hb dX12_jump_153 (by decide) (fun c9 => absurd c9 (by decide)) (fun _ => ?_)
                refine lv_iload hx hb dX12_jump_156 (lv_at hl 6 rfl) ?_
                refine lv_goto (tgt := 163) hx hb dX12_jump_158 (by decide) ?_
                refine lv_istore (lv' := [(4, .int x5), (6, .int 1), (0, .ref Q.h0), (1, .int x1), (2, .int x2), (3, .int x3), (5, .int x5)]) hx hb dX12_jump_163 hl (by decide) rfl (fun ls hl => ?_)
                refine lv_iinc (v := (x5 + (-1))) (lv' := [(5, .int (x5 + (-1))), (4, .int x5), (6, .int 1), (0, .ref Q.h0), (1, .int x1), (2, .int x2), (3, .int x3)]) hx hb dX12_jump_165 hl (k := 6) rfl rfl (by decide) rfl (fun ls hl => ?_)
                refine lv_goto (tgt := 60) hx hb dX12_jump_168 (by decide) ?_
                exact ih σ x1 x2 x3 x5 (x5 + (-1)) _ _ _ hf hP hD hS (lv_sub hl [3, 4, 5, 6, 1, 0] rfl)
set_option maxHeartbeats 4000000 in
set_option maxRecDepth 100000 in
theorem j_X12_jump_49 {p : Program} {e : Env} {s : State} {m : MethodId} {args : Array Value} {below : List Frame} {meth : Method} {c : Code} {A : Nat → Prop} (l : Launch) (dC : Nat → ClassId) (dI : Nat → Nat → Nat) (Q : RQ) (N : Nat) (R : RS) (hx : p.tables.exec = Jvm.exec) (hb : c.code = cX12_jump) (hr : meth.sig.returnType = none) (hml : c.maxLocals = 7) (hown : s.vm.findClass RX12 = some m.cls) (hts : ∀ w ∈ wzX12_jump, w.before args s = true) (hlocks : meth.locks = false) (hZ : zAMB s) (hA : ∀ q : Nat, s.heap.size ≤ q → A q) (hK : va_K (dC, dI) vwCl (rT Q) s) : ∀ (σ : RS) (x1 : Int32) (x2 : Int32) (x3 : Int32) (H : Heap) (locs : List Loc) (ls : Array Slot), f_X12_jump_49 N σ x1 x2 x3 = some R → va_P (dC, dI) vwCl (rW Q σ) H → va_D A (rW Q σ) → va_S A s.heap H locs → lv_has ls 7 [(0, .ref Q.h0), (1, .int x1), (2, .int x2), (3, .int x3)] → W p l e ({ frames := 5, cells := 0, slots := 0, locals := 300 }) s m args below meth c H locs 0 0 (MQ below (va_Qv (fun (_ : Unit) => True) (fun (_ : Unit) (t : State) => zPost dC dI A (rW Q R) (rT Q) t) A) args s 0 0 A) (F0 m 49 ls []) := by
  intro σ x1 x2 x3 H locs ls hf hP hD hS hl
  unfold f_X12_jump_49 at hf
  refine lv_iconst (v := (-1)) hx hb dX12_jump_49 (by decide) ?_
  refine lv_istore (lv' := [(4, .int (-1)), (0, .ref Q.h0), (1, .int x1), (2, .int x2), (3, .int x3)]) hx hb dX12_jump_50 hl (by decide) rfl (fun ls hl => ?_)
  refine lv_aload_n hx hb dX12_jump_52 rfl (lv_at hl 1 rfl) ?_
  refine rG_43 (v := (σ.i 43)) hx hb hts i_X12_jump_X12 hown hK hP (hts (.fieldLink RX12 367 "StatementRules2Model" "goals" "I") k_X12_jump_fieldLink_RX12_367_SRModel_goals_I) dX12_jump_53 rfl ?_
  refine lv_iconst (v := 1) hx hb dX12_jump_56 (by decide) ?_
  refine lv_isub hx hb dX12_jump_57 ?_
  refine lv_istore (lv' := [(5, .int ((σ.i 43) - 1)), (4, .int (-1)), (0, .ref Q.h0), (1, .int x1), (2, .int x2), (3, .int x3)]) hx hb dX12_jump_58 hl (by decide) rfl (fun ls hl => ?_)
  exact j_X12_jump_60 l dC dI Q N R hx hb hr hml hown hts hlocks hZ hA hK N σ x1 x2 x3 (-1) ((σ.i 43) - 1) _ _ _ hf hP hD hS (lv_sub hl [2, 3, 4, 5, 1, 0] rfl)
set_option maxHeartbeats 4000000 in
set_option maxRecDepth 100000 in
theorem j_X12_jump_16 {p : Program} {e : Env} {s : State} {m : MethodId} {args : Array Value} {below : List Frame} {meth : Method} {c : Code} {A : Nat → Prop} (l : Launch) (dC : Nat → ClassId) (dI : Nat → Nat → Nat) (Q : RQ) (N : Nat) (R : RS) (hx : p.tables.exec = Jvm.exec) (hb : c.code = cX12_jump) (hr : meth.sig.returnType = none) (hml : c.maxLocals = 7) (hown : s.vm.findClass RX12 = some m.cls) (hts : ∀ w ∈ wzX12_jump, w.before args s = true) (hlocks : meth.locks = false) (hZ : zAMB s) (hA : ∀ q : Nat, s.heap.size ≤ q → A q) (hK : va_K (dC, dI) vwCl (rT Q) s) : ∀ (σ : RS) (x1 : Int32) (H : Heap) (locs : List Loc) (ls : Array Slot), f_X12_jump_16 N σ x1 = some R → va_P (dC, dI) vwCl (rW Q σ) H → va_D A (rW Q σ) → va_S A s.heap H locs → lv_has ls 7 [(0, .ref Q.h0), (1, .int x1)] → W p l e ({ frames := 5, cells := 0, slots := 0, locals := 300 }) s m args below meth c H locs 0 0 (MQ below (va_Qv (fun (_ : Unit) => True) (fun (_ : Unit) (t : State) => zPost dC dI A (rW Q R) (rT Q) t) A) args s 0 0 A) (F0 m 16 ls []) := by
  intro σ x1 H locs ls hf hP hD hS hl
  unfold f_X12_jump_16 at hf
  refine lv_aload_n hx hb dX12_jump_16 rfl (lv_at hl 0 rfl) ?_
  refine rG_11 (v := (σ.i 11)) hx hb hts i_X12_jump_X12 hown hK hP (hts (.fieldLink RX12 304 "StatementRules2Model" "from" "I") k_X12_jump_fieldLink_RX12_304_SRModel_from_I) dX12_jump_17 rfl ?_
  refine lv_istore_n (lv' := [(2, .int (σ.i 11)), (0, .ref Q.h0), (1, .int x1)]) hx hb dX12_jump_20 rfl hl (by decide) rfl (fun ls hl => ?_)
  refine lv_aload_n hx hb dX12_jump_21 rfl (lv_at hl 1 rfl) ?_
  refine lv_dup hx hb dX12_jump_22 rfl ?_
  refine rG_55 (v := (σ.i 55)) hx hb hts i_X12_jump_X12 hown hK hP (hts (.fieldLink RX12 527 "StatementRules2Model" "jumps" "I") k_X12_jump_fieldLink_RX12_527_SRModel_jumps_I) dX12_jump_23 rfl ?_
  refine lv_iconst (v := 1) hx hb dX12_jump_26 (by decide) ?_
  refine lv_iadd hx hb dX12_jump_27 ?_
  refine rP_55 hx hb hts i_X12_jump_X12 hown hK hP hD hS (hts (.fieldLink RX12 527 "StatementRules2Model" "jumps" "I") k_X12_jump_fieldLink_RX12_527_SRModel_jumps_I) dX12_jump_28 (fun H locs hP hD hS => ?_)
  refine lv_aload_n hx hb dX12_jump_31 rfl (lv_at hl 1 rfl) ?_
  obtain ⟨p2, hcp2, hf⟩ := hf_bind hf
  have hFc := r_free hD hS hA
  refine va_callv (va_runV (As := []) (rest := []) ⟨hx, hb, hml, hown, hts⟩ (c_X12_next l dC dI _ Q N (RS.setI σ 55 ((σ.i 55) + 1)) p2 hcp2) (cwV 0 hts hX12_jump_X12_next_v345 rfl rfl rfl (by decide +kernel) ⟨Nat.le_of_ble_eq_true rfl, Nat.le_of_ble_eq_true rfl⟩) ⟨zPre.blind, va_recv hK hP (ci := 11) (q0 := 0) rfl rfl, zPre.go hZ hP hK hD⟩ rfl rfl hl.1 rfl (lv_room (Nat.le_of_ble_eq_true rfl)) dX12_jump_32 ⟨Nat.le_of_ble_eq_true rfl, Nat.le_of_ble_eq_true rfl⟩) hS (fun q _ h => hFc q h) hFc (fun u9 t9 H1 locs ht hvm hw hB hz1 hk1 hS => ?_)
  obtain ⟨hP, hK1, hD1⟩ := hB
  rw [ht] at hP
  have hD := hD1.weaken (fun _ _ _ h => hFc _ h)
  generalize H1 = H at hP hS ⊢
  refine lv_aload_n hx hb dX12_jump_35 rfl (lv_at hl 1 rfl) ?_
  refine rG_10 (v := (p2.i 10)) hx hb hts i_X12_jump_X12 hown hK hP (hts (.fieldLink RX12 307 "StatementRules2Model" "tok" "I") k_X12_jump_fieldLink_RX12_307_SRModel_tok_I) dX12_jump_36 rfl ?_
  refine lv_iconst (v := 2) hx hb dX12_jump_39 (by decide) ?_
  refine lv_icmp_ne (tgt := 47) hx hb dX12_jump_40 (by decide) (fun c4 => ?_) (fun c4 => ?_)
  ·
    replace hf := (if_neg c4).symm.trans hf
    refine lv_iconst (v := 0) hx hb dX12_jump_47 (by decide) ?_
    refine lv_istore_n (lv' := [(3, .int 0), (2, .int (σ.i 11)), (0, .ref Q.h0), (1, .int x1)]) hx hb dX12_jump_48 rfl hl (by decide) rfl (fun ls hl => ?_)
    exact j_X12_jump_49 l dC dI Q N R hx hb hr hml hown hts hlocks hZ hA hK p2 x1 (σ.i 11) 0 _ _ _ hf hP hD hS (lv_sub hl [2, 3, 1, 0] rfl)
  ·
    replace hf := (if_pos c4).symm.trans hf
    refine lv_iconst (v := 1) hx hb dX12_jump_43 (by decide) ?_
    refine lv_goto (tgt := 48) hx hb dX12_jump_44 (by decide) ?_
    refine lv_istore_n (lv' := [(3, .int 1), (2, .int (σ.i 11)), (0, .ref Q.h0), (1, .int x1)]) hx hb dX12_jump_48 rfl hl (by decide) rfl (fun ls hl => ?_)
    exact j_X12_jump_49 l dC dI Q N R hx hb hr hml hown hts hlocks hZ hA hK p2 x1 (σ.i 11) 1 _ _ _ hf hP hD hS (lv_sub hl [2, 3, 1, 0] rfl)
set_option maxHeartbeats 4000000 in
set_option maxRecDepth 100000 in
theorem c_X12_jump (l : Launch) (dC : Nat → ClassId) (dI : Nat → Nat → Nat) (sz : Nat) (Q : RQ) (N : Nat) (σ : RS) (R : RS) (hf : f_X12_jump N σ = some R) : Met l yX12_jump wzX12_jump ({ frames := 5, cells := 0, slots := 0, locals := 300 }) (va_Pc [.ref Q.h0] (zPre dC dI sz (rW Q σ) (rT Q))) (va_Qv (fun (_ : Unit) => True) (fun (_ : Unit) (t : State) => zPost dC dI (va_A (rW Q σ) sz) (rW Q R) (rT Q) t) (va_A (rW Q σ) sz)) 0 0 (va_A (rW Q σ) sz) := by
  refine Met.ofW (cc := cX12_jump) (maxL := 7) (ret := none) (by decide) rfl ?_
  intro p e s m args below meth c s₁ B hml hv
  obtain ⟨rfl, hsz, hZ, hP, hK, hD0⟩ := hv
  have hx := B.exec
  have hb := B.bytes
  have hr := B.returns
  have hts := atoms_spec (ws := wzX12_jump) B.pre
  have hown : s.vm.findClass RX12 = some m.cls := findClass_of_methodNamed B.named
  have hlocks := B.notSynchronized
  subst hsz
  have hD := hD0.self (sz := s.heap.size)
  generalize hAe : va_A (rW Q σ) s.heap.size = A at hD ⊢
  have hA : ∀ q : Nat, s.heap.size ≤ q → A q := fun q h => by rw [← hAe]; exact Or.inr h
  have hS : va_S A s.heap s.heap [] := va_S.rf
  have hl := lv_entry ([.ref Q.h0]) (n := 7) (Nat.le_of_ble_eq_true rfl)
  rw [lg_entry_eq]
  generalize (lg_sl ([.ref Q.h0]) ++ List.replicate (7 - (lg_sl ([.ref Q.h0])).length) Slot.unset).toArray = ls at hl ⊢
  have hl : lv_has ls 7 [(0, .ref Q.h0)] := hl
  unfold f_X12_jump at hf
  refine lv_aload_n hx hb dX12_jump_0 rfl (lv_at hl 0 rfl) ?_
  refine rG_10 (v := (σ.i 10)) hx hb hts i_X12_jump_X12 hown hK hP (hts (.fieldLink RX12 307 "StatementRules2Model" "tok" "I") k_X12_jump_fieldLink_RX12_307_SRModel_tok_I) dX12_jump_1 rfl ?_
  refine lv_sipush (v := 418) hx hb dX12_jump_4 (by decide) ?_
  refine lv_icmp_ne (tgt := 14) hx hb dX12_jump_7 (by decide) (fun c1 => ?_) (fun c1 => ?_)
  ·
    replace hf := (if_neg c1).symm.trans hf
    refine lv_iconst (v := 0) hx hb dX12_jump_14 (by decide) ?_
    refine lv_istore_n (lv' := [(1, .int 0), (0, .ref Q.h0)]) hx hb dX12_jump_15 rfl hl (by decide) rfl (fun ls hl => ?_)
    exact j_X12_jump_16 l dC dI Q N R hx hb hr hml hown hts hlocks hZ hA hK σ 0 _ _ _ hf hP hD hS (lv_sub hl [1, 0] rfl)
  ·
    replace hf := (if_pos c1).symm.trans hf
    refine lv_iconst (v := 1) hx hb dX12_jump_10 (by decide) ?_
    refine lv_goto (tgt := 15) hx hb dX12_jump_11 (by decide) ?_
    refine lv_istore_n (lv' := [(1, .int 1), (0, .ref Q.h0)]) hx hb dX12_jump_15 rfl hl (by decide) rfl (fun ls hl => ?_)
    exact j_X12_jump_16 l dC dI Q N R hx hb hr hml hown hts hlocks hZ hA hK σ 1 _ _ _ hf hP hD hS (lv_sub hl [1, 0] rfl)
