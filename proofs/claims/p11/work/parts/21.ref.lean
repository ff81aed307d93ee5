theorem k_X12_readSign_fieldLink_RX12_297_SRModel_to_I : Cond.fieldLink RX12 297 "StatementRules2Model" "to" "I" ∈ wzX12_readSign := List.mem_cons_of_mem _ (List.mem_append_left _ (List.mem_of_getElem? (i := 0) rfl))
theorem i_X12_readSign_X12 : ∀ w ∈ wsX120, w ∈ wzX12_readSign := fun _ h => List.mem_cons_of_mem _ (List.mem_append_right _ (List.mem_append_left _ (h)))
theorem k_X12_readSign_fieldLink_RX12_307_SRModel_tok_I : Cond.fieldLink RX12 307 "StatementRules2Model" "tok" "I" ∈ wzX12_readSign := List.mem_cons_of_mem _ (List.mem_append_left _ (List.mem_of_getElem? (i := 1) rfl))
set_option maxHeartbeats 4000000 in
set_option maxRecDepth 100000 in
theorem j_X12_readSign_306 {p : Program} {e : Env} {s : State} {m : MethodId} {args : Array Value} {below : List Frame} {meth : Method} {c : Code} {A : Nat → Prop} (l : Launch) (dC : Nat → ClassId) (dI : Nat → Nat → Nat) (Q : RQ) (N : Nat) (R : RS) (hx : p.tables.exec = Jvm.exec) (hb : c.code = cX12_readSign) (hr : meth.sig.returnType = none) (hml : c.maxLocals = 5) (hown : s.vm.findClass RX12 = some m.cls) (hts : ∀ w ∈ wzX12_readSign, w.before args s = true) (hlocks : meth.locks = false) (hZ : zAMB s) (hA : ∀ q : Nat, s.heap.size ≤ q → A q) (hK : va_K (dC, dI) vwCl (rT Q) s) : ∀ (σ : RS) (x1 : Int32) (x4 : Int32) (H : Heap) (locs : List Loc) (ls : Array Slot), f_X12_readSign_306 N σ x1 x4 = some R → va_P (dC, dI) vwCl (rW Q σ) H → va_D A (rW Q σ) → va_S A s.heap H locs → lv_has ls 5 [(0, .ref Q.h0), (1, .int x1), (4, .int x4)] → W p l e ({ frames := 2, cells := 0, slots := 0, locals := 120 }) s m args below meth c H locs 0 0 (MQ below (va_Qv (fun (_ : Unit) => True) (fun (_ : Unit) (t : State) => zPost dC dI A (rW Q R) (rT Q) t) A) args s 0 0 A) (F0 m 306 ls []) := by
  intro σ x1 x4 H locs ls hf hP hD hS hl
  unfold f_X12_readSign_306 at hf
  refine lv_aload_n hx hb dX12_readSign_306 rfl (lv_at hl 0 rfl) ?_
  refine lv_iload hx hb dX12_readSign_307 (lv_at hl 2 rfl) ?_
  refine lv_if_eq (tgt := 316) hx hb dX12_readSign_309 (by decide) (fun c13 => ?_) (fun c13 => ?_)
  ·
    replace hf := (if_pos c13).symm.trans hf
    refine lv_bipush (v := 6) hx hb dX12_readSign_316 (by decide) ?_
    refine rP_10 hx hb hts i_X12_readSign_X12 hown hK hP hD hS (hts (.fieldLink RX12 307 "StatementRules2Model" "tok" "I") k_X12_readSign_fieldLink_RX12_307_SRModel_tok_I) dX12_readSign_318 (fun H locs hP hD hS => ?_)
    obtain rfl := Option.some.inj hf
    exact W.vret hx hb hr (fun t ht hW => ⟨⟨(), rfl, trivial, by rw [ht]; exact hP, va_K.moved hW.alike hK, hD⟩, hS.F ht⟩) hS.2.2 dX12_readSign_321
  ·
    replace hf := (if_neg c13).symm.trans hf
    refine lv_iload_n hx hb dX12_readSign_312 rfl (lv_at hl 1 rfl) ?_
    refine lv_goto (tgt := 318) hx hb dX12_readSign_313 (by decide) ?_
    refine rP_10 hx hb hts i_X12_readSign_X12 hown hK hP hD hS (hts (.fieldLink RX12 307 "StatementRules2Model" "tok" "I") k_X12_readSign_fieldLink_RX12_307_SRModel_tok_I) dX12_readSign_318 (fun H locs hP hD hS => ?_)
    obtain rfl := Option.some.inj hf
    exact W.vret hx hb hr (fun t ht hW => ⟨⟨(), rfl, trivial, by rw [ht]; exact hP, va_K.moved hW.alike hK, hD⟩, hS.F ht⟩) hS.2.2 dX12_readSign_321
set_option maxHeartbeats 4000000 in
set_option maxRecDepth 100000 in
theorem j_X12_readSign_299 {p : Program} {e : Env} {s : State} {m : MethodId} {args : Array Value} {below : List Frame} {meth : Method} {c : Code} {A : Nat → Prop} (l : Launch) (dC : Nat → ClassId) (dI : Nat → Nat → Nat) (Q : RQ) (N : Nat) (R : RS) (hx : p.tables.exec = Jvm.exec) (hb : c.code = cX12_readSign) (hr : meth.sig.returnType = none) (hml : c.maxLocals = 5) (hown : s.vm.findClass RX12 = some m.cls) (hts : ∀ w ∈ wzX12_readSign, w.before args s = true) (hlocks : meth.locks = false) (hZ : zAMB s) (hA : ∀ q : Nat, s.heap.size ≤ q → A q) (hK : va_K (dC, dI) vwCl (rT Q) s) : ∀ (σ : RS) (x1 : Int32) (H : Heap) (locs : List Loc) (ls : Array Slot), f_X12_readSign_299 N σ x1 = some R → va_P (dC, dI) vwCl (rW Q σ) H → va_D A (rW Q σ) → va_S A s.heap H locs → lv_has ls 5 [(0, .ref Q.h0), (1, .int x1)] → W p l e ({ frames := 2, cells := 0, slots := 0, locals := 120 }) s m args below meth c H locs 0 0 (MQ below (va_Qv (fun (_ : Unit) => True) (fun (_ : Unit) (t : State) => zPost dC dI A (rW Q R) (rT Q) t) A) args s 0 0 A) (F0 m 299 ls []) := by
  intro σ x1 H locs ls hf hP hD hS hl
  unfold f_X12_readSign_299 at hf
  refine lv_iconst (v := 1) hx hb dX12_readSign_299 (by decide) ?_
  refine lv_goto (tgt := 304) hx hb dX12_readSign_300 (by decide) ?_
  refine lv_istore (lv' := [(4, .int 1), (0, .ref Q.h0), (1, .int x1)]) hx hb dX12_readSign_304 hl (by decide) rfl (fun ls hl => ?_)
  exact j_X12_readSign_306 l dC dI Q N R hx hb hr hml hown hts hlocks hZ hA hK σ x1 1 _ _ _ hf hP hD hS (lv_sub hl [1, 2, 0] rfl)
set_option maxHeartbeats 4000000 in
set_option maxRecDepth 100000 in
theorem j_X12_readSign_165 {p : Program} {e : Env} {s : State} {m : MethodId} {args : Array Value} {below : List Frame} {meth : Method} {c : Code} {A : Nat → Prop} (l : Launch) (dC : Nat → ClassId) (dI : Nat → Nat → Nat) (Q : RQ) (N : Nat) (R : RS) (hx : p.tables.exec = Jvm.exec) (hb : c.code = cX12_readSign) (hr : meth.sig.returnType = none) (hml : c.maxLocals = 5) (hown : s.vm.findClass RX12 = some m.cls) (hts : ∀ w ∈ wzX12_readSign, w.before args s = true) (hlocks : meth.locks = false) (hZ : zAMB s) (hA : ∀ q : Nat, s.heap.size ≤ q → A q) (hK : va_K (dC, dI) vwCl (rT Q) s) : ∀ (σ : RS) (x1 : Int32) (x3 : Int32) (H : Heap) (locs : List Loc) (ls : Array Slot), f_X12_readSign_165 N σ x1 x3 = some R → va_P (dC, dI) vwCl (rW Q σ) H → va_D A (rW Q σ) → va_S A s.heap H locs → lv_has ls 5 [(0, .ref Q.h0), (1, .int x1), (3, .int x3)] → W p l e ({ frames := 2, cells := 0, slots := 0, locals := 120 }) s m args below meth c H locs 0 0 (MQ below (va_Qv (fun (_ : Unit) => True) (fun (_ : Unit) (t : State) => zPost dC dI A (rW Q R) (rT Q) t) A) args s 0 0 A) (F0 m 165 ls []) := by
  intro σ x1 x3 H locs ls hf hP hD hS hl
  unfold f_X12_readSign_165 at hf
  refine lv_iload_n hx hb dX12_readSign_165 rfl (lv_at hl 2 rfl) ?_
  refine lv_if_le (tgt := 185) hx hb dX12_readSign_166 (by decide) (fun c11 => ?_) (fun c11 => ?_)
  ·
    replace hf := (if_pos c11).symm.trans hf
    refine lv_iload_n hx hb dX12_readSign_185 rfl (lv_at hl 1 rfl) ?_
    refine lv_bipush (v := 123) hx hb dX12_readSign_186 (by decide) ?_
    refine lv_icmp_eq (tgt := 299) hx hb dX12_readSign_188 (by decide) (fun c12 => ?_) (fun c12 => ?_)
    ·
      replace hf := (if_pos c12).symm.trans hf
      exact j_X12_readSign_299 l dC dI Q N R hx hb hr hml hown hts hlocks hZ hA hK σ x1 _ _ _ hf hP hD hS (lv_sub hl [0, 1] rfl)
    ·
      replace hf := (if_neg c12).symm.trans hf
      refine lv_iload_n hx hb dX12_readSign_191 rfl (lv_at hl 1 rfl) ?_
      refine lv_bipush (v := 125) hx hb dX12_readSign_192 (by decide) ?_
      refine lv_icmp_eq (tgt := 299) hx hb dX12_readSign_194 (by decide) (fun c14 => ?_) (fun c14 => ?_)
      ·
        replace hf := (if_pos c14).symm.trans hf
        exact j_X12_readSign_299 l dC dI Q N R hx hb hr hml hown hts hlocks hZ hA hK σ x1 _ _ _ hf hP hD hS (lv_sub hl [0, 1] rfl)
      ·
        replace hf := (if_neg c14).symm.trans hf
        refine lv_iload_n hx hb dX12_readSign_197 rfl (lv_at hl 1 rfl) ?_
        refine lv_bipush (v := 40) hx hb dX12_readSign_198 (by decide) ?_
        refine lv_icmp_eq (tgt := 299) hx hb dX12_readSign_200 (by decide) (fun c15 => ?_) (fun c15 => ?_)
        ·
          replace hf := (if_pos c15).symm.trans hf
          exact j_X12_readSign_299 l dC dI Q N R hx hb hr hml hown hts hlocks hZ hA hK σ x1 _ _ _ hf hP hD hS (lv_sub hl [0, 1] rfl)
        ·
          replace hf := (if_neg c15).symm.trans hf
          refine lv_iload_n hx hb dX12_readSign_203 rfl (lv_at hl 1 rfl) ?_
          refine lv_bipush (v := 41) hx hb dX12_readSign_204 (by decide) ?_
          refine lv_icmp_eq (tgt := 299) hx hb dX12_readSign_206 (by decide) (fun c16 => ?_) (fun c16 => ?_)
          ·
            replace hf := (if_pos c16).symm.trans hf
            exact j_X12_readSign_299 l dC dI Q N R hx hb hr hml hown hts hlocks hZ hA hK σ x1 _ _ _ hf hP hD hS (lv_sub hl [0, 1] rfl)
          ·
            replace hf := (if_neg c16).symm.trans hf
            refine lv_iload_n hx hb dX12_readSign_209 rfl (lv_at hl 1 rfl) ?_
            refine lv_bipush (v := 91) hx hb dX12_readSign_210 (by decide) ?_
            refine lv_icmp_eq (tgt := 299) hx hb dX12_readSign_212 (by decide) (fun c17 => ?_) (fun c17 => ?_)
            ·
              replace hf := (if_pos c17).symm.trans hf
              exact j_X12_readSign_299 l dC dI Q N R hx hb hr hml hown hts hlocks hZ hA hK σ x1 _ _ _ hf hP hD hS (lv_sub hl [0, 1] rfl)
            ·
              replace hf := (if_neg c17).symm.trans hf
              refine lv_iload_n hx hb dX12_readSign_215 rfl (lv_at hl 1 rfl) ?_
              refine lv_bipush (v := 93) hx hb dX12_readSign_216 (by decide) ?_
              refine lv_icmp_eq (tgt := 299) hx hb dX12_readSign_218 (by decide) (fun c18 => ?_) (fun c18 => ?_)
              ·
                replace hf := (if_pos c18).symm.trans hf
                exact j_X12_readSign_299 l dC dI Q N R hx hb hr hml hown hts hlocks hZ hA hK σ x1 _ _ _ hf hP hD hS (lv_sub hl [0, 1] rfl)
              ·
                replace hf := (if_neg c18).symm.trans hf
                refine lv_iload_n hx hb dX12_readSign_221 rfl (lv_at hl 1 rfl) ?_
                refine lv_bipush (v := 59) hx hb dX12_readSign_222 (by decide) ?_
                refine lv_icmp_eq (tgt := 299) hx hb dX12_readSign_224 (by decide) (fun c19 => ?_) (fun c19 => ?_)
                ·
                  replace hf := (if_pos c19).symm.trans hf
                  exact j_X12_readSign_299 l dC dI Q N R hx hb hr hml hown hts hlocks hZ hA hK σ x1 _ _ _ hf hP hD hS (lv_sub hl [0, 1] rfl)
                ·
                  replace hf := (if_neg c19).symm.trans hf
                  refine lv_iload_n hx hb dX12_readSign_227 rfl (lv_at hl 1 rfl) ?_
                  refine lv_bipush (v := 58) hx hb dX12_readSign_228 (by decide) ?_
                  refine lv_icmp_eq (tgt := 299) hx hb dX12_readSign_230 (by decide) (fun c20 => ?_) (fun c20 => ?_)
                  ·
                    replace hf := (if_pos c20).symm.trans hf
                    exact j_X12_readSign_299 l dC dI Q N R hx hb hr hml hown hts hlocks hZ hA hK σ x1 _ _ _ hf hP hD hS (lv_sub hl [0, 1] rfl)
                  ·
                    replace hf := (if_neg c20).symm.trans hf
                    refine lv_iload_n hx hb dX12_readSign_233 rfl (lv_at hl 1 rfl) ?_
                    refine lv_bipush (v := 44) hx hb dX12_readSign_234 (by decide) ?_
                    refine lv_icmp_eq (tgt := 299) hx hb dX12_readSign_236 (by decide) (fun c21 => ?_) (fun c21 => ?_)
                    ·
                      replace hf := (if_pos c21).symm.trans hf
                      exact j_X12_readSign_299 l dC dI Q N R hx hb hr hml hown hts hlocks hZ hA hK σ x1 _ _ _ hf hP hD hS (lv_sub hl [0, 1] rfl)
                    ·
                      replace hf := (if_neg c21).symm.trans hf
                      refine lv_iload_n hx hb dX12_readSign_239 rfl (lv_at hl 1 rfl) ?_
                      refine lv_bipush (v := 61) hx hb dX12_readSign_240 (by decide) ?_
                      refine lv_icmp_eq (tgt := 299) hx hb dX12_readSign_242 (by decide) (fun c22 => ?_) (fun c22 => ?_)
                      ·
                        replace hf := (if_pos c22).symm.trans hf
                        exact j_X12_readSign_299 l dC dI Q N R hx hb hr hml hown hts hlocks hZ hA hK σ x1 _ _ _ hf hP hD hS (lv_sub hl [0, 1] rfl)
                      ·
                        replace hf := (if_neg c22).symm.trans hf
                        refine lv_iload_n hx hb dX12_readSign_245 rfl (lv_at hl 1 rfl) ?_
                        refine lv_bipush (v := 43) hx hb dX12_readSign_246 (by decide) ?_
                        refine lv_icmp_eq (tgt := 299) hx hb dX12_readSign_248 (by decide) (fun c23 => ?_) (fun c23 => ?_)
                        ·
                          replace hf := (if_pos c23).symm.trans hf
                          exact j_X12_readSign_299 l dC dI Q N R hx hb hr hml hown hts hlocks hZ hA hK σ x1 _ _ _ hf hP hD hS (lv_sub hl [0, 1] rfl)
                        ·
                          replace hf := (if_neg c23).symm.trans hf
                          refine lv_iload_n hx hb dX12_readSign_251 rfl (lv_at hl 1 rfl) ?_
                          refine lv_bipush (v := 45) hx hb dX12_readSign_252 (by decide) ?_
                          refine lv_icmp_eq (tgt := 299) hx hb dX12_readSign_254 (by decide) (fun c24 => ?_) (fun c24 => ?_)
                          ·
                            replace hf := (if_pos c24).symm.trans hf
                            exact j_X12_readSign_299 l dC dI Q N R hx hb hr hml hown hts hlocks hZ hA hK σ x1 _ _ _ hf hP hD hS (lv_sub hl [0, 1] rfl)
                          ·
                            replace hf := (if_neg c24).symm.trans hf
                            refine lv_iload_n hx hb dX12_readSign_257 rfl (lv_at hl 1 rfl) ?_
                            refine lv_bipush (v := 42) hx hb dX12_readSign_258 (by decide) ?_
                            refine lv_icmp_eq (tgt := 299) hx hb dX12_readSign_260 (by decide) (fun c25 => ?_) (fun c25 => ?_)
                            ·
                              replace hf := (if_pos c25).symm.trans hf
                              exact j_X12_readSign_299 l dC dI Q N R hx hb hr hml hown hts hlocks hZ hA hK σ x1 _ _ _ hf hP hD hS (lv_sub hl [0, 1] rfl)
                            ·
                              replace hf := (if_neg c25).symm.trans hf
                              refine lv_iload_n hx hb dX12_readSign_263 rfl (lv_at hl 1 rfl) ?_
                              refine lv_bipush (v := 47) hx hb dX12_readSign_264 (by decide) ?_
                              refine lv_icmp_eq (tgt := 299) hx hb dX12_readSign_266 (by decide) (fun c26 => ?_) (fun c26 => ?_)
                              ·
                                replace hf := (if_pos c26).symm.trans hf
                                exact j_X12_readSign_299 l dC dI Q N R hx hb hr hml hown hts hlocks hZ hA hK σ x1 _ _ _ hf hP hD hS (lv_sub hl [0, 1] rfl)
                              ·
                                replace hf := (if_neg c26).symm.trans hf
                                refine lv_iload_n hx hb dX12_readSign_269 rfl (lv_at hl 1 rfl) ?_
                                refine lv_bipush (v := 37) hx hb dX12_readSign_270 (by decide) ?_
                                refine lv_icmp_eq (tgt := 299) hx hb dX12_readSign_272 (by decide) (fun c27 => ?_) (fun c27 => ?_)
                                ·
                                  replace hf := (if_pos c27).symm.trans hf
                                  exact j_X12_readSign_299 l dC dI Q N R hx hb hr hml hown hts hlocks hZ hA hK σ x1 _ _ _ hf hP hD hS (lv_sub hl [0, 1] rfl)
                                ·
                                  replace hf := (if_neg c27).symm.trans hf
                                  refine lv_iload_n hx hb dX12_readSign_275 rfl (lv_at hl 1 rfl) ?_
                                  refine lv_bipush (v := 60) hx hb dX12_readSign_276 (by decide) ?_
                                  refine lv_icmp_eq (tgt := 299) hx hb dX12_readSign_278 (by decide) (fun c28 => ?_) (fun c28 => ?_)
                                  ·
                                    replace hf := (if_pos c28).symm.trans hf
                                    exact j_X12_readSign_299 l dC dI Q N R hx hb hr hml hown hts hlocks hZ hA hK σ x1 _ _ _ hf hP hD hS (lv_sub hl [0, 1] rfl)
                                  ·
                                    replace hf := (if_neg c28).symm.trans hf
                                    refine lv_iload_n hx hb dX12_readSign_281 rfl (lv_at hl 1 rfl) ?_
                                    refine lv_bipush (v := 62) hx hb dX12_readSign_282 (by decide) ?_
                                    refine lv_icmp_eq (tgt := 299) hx hb dX12_readSign_284 (by decide) (fun c29 => ?_) (fun c29 => ?_)
                                    ·
                                      replace hf := (if_pos c29).symm.trans hf
                                      exact j_X12_readSign_299 l dC dI Q N R hx hb hr hml hown hts hlocks hZ hA hK σ x1 _ _ _ hf hP hD hS (lv_sub hl [0, 1] rfl)
                                    ·
                                      replace hf := (if_neg c29).symm.trans hf
                                      refine lv_iload_n hx hb dX12_readSign_287 rfl (lv_at hl 1 rfl) ?_
                                      refine lv_bipush (v := 33) hx hb dX12_readSign_288 (by decide) ?_
                                      refine lv_icmp_eq (tgt := 299) hx hb dX12_readSign_290 (by decide) (fun c30 => ?_) (fun c30 => ?_)
                                      ·
                                        replace hf := (if_pos c30).symm.trans hf
                                        exact j_X12_readSign_299 l dC dI Q N R hx hb hr hml hown hts hlocks hZ hA hK σ x1 _ _ _ hf hP hD hS (lv_sub hl [0, 1] rfl)
                                      ·
                                        replace hf := (if_neg c30).symm.trans hf
                                        refine lv_iload_n hx hb dX12_readSign_293 rfl (lv_at hl 1 rfl) ?_
                                        refine lv_bipush (v := 124) hx hb dX12_readSign_294 (by decide) ?_
                                        refine lv_icmp_ne (tgt := 303) hx hb dX12_readSign_296 (by decide) (fun c31 => ?_) (fun c31 => ?_)
                                        ·
                                          replace hf := (if_neg c31).symm.trans hf
                                          refine lv_iconst (v := 0) hx hb dX12_readSign_303 (by decide) ?_
                                          refine lv_istore (lv' := [(4, .int 0), (0, .ref Q.h0), (1, .int x1), (3, .int x3)]) hx hb dX12_readSign_304 hl (by decide) rfl (fun ls hl => ?_)
                                          exact j_X12_readSign_306 l dC dI Q N R hx hb hr hml hown hts hlocks hZ hA hK σ x1 0 _ _ _ hf hP hD hS (lv_sub hl [1, 2, 0] rfl)
                                        ·
                                          replace hf := (if_pos c31).symm.trans hf
                                          exact j_X12_readSign_299 l dC dI Q N R hx hb hr hml hown hts hlocks hZ hA hK σ x1 _ _ _ hf hP hD hS (lv_sub hl [0, 1] rfl)
  ·
    replace hf := (if_neg c11).symm.trans hf
    refine lv_aload_n hx hb dX12_readSign_169 rfl (lv_at hl 0 rfl) ?_
    refine lv_dup hx hb dX12_readSign_170 rfl ?_
    refine rG_12 (v := (σ.i 12)) hx hb hts i_X12_readSign_X12 hown hK hP (hts (.fieldLink RX12 297 "StatementRules2Model" "to" "I") k_X12_readSign_fieldLink_RX12_297_SRModel_to_I) dX12_readSign_171 rfl ?_
    refine lv_iconst (v := 1) hx hb dX12_readSign_174 (by decide) ?_
    refine lv_iadd hx hb dX12_readSign_175 ?_
    refine rP_12 hx hb hts i_X12_readSign_X12 hown hK hP hD hS (hts (.fieldLink RX12 297 "StatementRules2Model" "to" "I") k_X12_readSign_fieldLink_RX12_297_SRModel_to_I) dX12_readSign_176 (fun H locs hP hD hS => ?_)
    refine lv_aload_n hx hb dX12_readSign_179 rfl (lv_at hl 0 rfl) ?_
    refine lv_iload_n hx hb dX12_readSign_180 rfl (lv_at hl 2 rfl) ?_
    refine rP_10 hx hb hts i_X12_readSign_X12 hown hK hP hD hS (hts (.fieldLink RX12 307 "StatementRules2Model" "tok" "I") k_X12_readSign_fieldLink_RX12_307_SRModel_tok_I) dX12_readSign_181 (fun H locs hP hD hS => ?_)
    obtain rfl := Option.some.inj hf
    exact W.vret hx hb hr (fun t ht hW => ⟨⟨(), rfl, trivial, by rw [ht]; exact hP, va_K.moved hW.alike hK, hD⟩, hS.F ht⟩) hS.2.2 dX12_readSign_184
set_option maxHeartbeats 4000000 in
set_option maxRecDepth 100000 in
theorem j_X12_readSign_163 {p : Program} {e : Env} {s : State} {m : MethodId} {args : Array Value} {below : List Frame} {meth : Method} {c : Code} {A : Nat → Prop} (l : Launch) (dC : Nat → ClassId) (dI : Nat → Nat → Nat) (Q : RQ) (N : Nat) (R : RS) (hx : p.tables.exec = Jvm.exec) (hb : c.code = cX12_readSign) (hr : meth.sig.returnType = none) (hml : c.maxLocals = 5) (hown : s.vm.findClass RX12 = some m.cls) (hts : ∀ w ∈ wzX12_readSign, w.before args s = true) (hlocks : meth.locks = false) (hZ : zAMB s) (hA : ∀ q : Nat, s.heap.size ≤ q → A q) (hK : va_K (dC, dI) vwCl (rT Q) s) : ∀ (σ : RS) (x1 : Int32) (H : Heap) (locs : List Loc) (ls : Array Slot), f_X12_readSign_163 N σ x1 = some R → va_P (dC, dI) vwCl (rW Q σ) H → va_D A (rW Q σ) → va_S A s.heap H locs → lv_has ls 5 [(0, .ref Q.h0), (1, .int x1)] → W p l e ({ frames := 2, cells := 0, slots := 0, locals := 120 }) s m args below meth c H locs 0 0 (MQ below (va_Qv (fun (_ : Unit) => True) (fun (_ : Unit) (t : State) => zPost dC dI A (rW Q R) (rT Q) t) A) args s 0 0 A) (F0 m 163 ls []) := by
  intro σ x1 H locs ls hf hP hD hS hl
  unfold f_X12_readSign_163 at hf
  refine lv_iconst (v := 0) hx hb dX12_readSign_163 (by decide) ?_
  refine lv_istore_n (lv' := [(3, .int 0), (0, .ref Q.h0), (1, .int x1)]) hx hb dX12_readSign_164 rfl hl (by decide) rfl (fun ls hl => ?_)
  exact j_X12_readSign_165 l dC dI Q N R hx hb hr hml hown hts hlocks hZ hA hK σ x1 0 _ _ _ hf hP hD hS (lv_sub hl [1, 2, 0] rfl)
set_option maxHeartbeats 4000000 in
set_option maxRecDepth 100000 in
theorem j_X12_readSign_145 {p : Program} {e : Env} {s : State} {m : MethodId} {args : Array Value} {below : List Frame} {meth : Method} {c : Code} {A : Nat → Prop} (l : Launch) (dC : Nat → ClassId) (dI : Nat → Nat → Nat) (Q : RQ) (N : Nat) (R : RS) (hx : p.tables.exec = Jvm.exec) (hb : c.code = cX12_readSign) (hr : meth.sig.returnType = none) (hml : c.maxLocals = 5) (hown : s.vm.findClass RX12 = some m.cls) (hts : ∀ w ∈ wzX12_readSign, w.before args s = true) (hlocks : meth.locks = false) (hZ : zAMB s) (hA : ∀ q : Nat, s.heap.size ≤ q → A q) (hK : va_K (dC, dI) vwCl (rT Q) s) : ∀ (σ : RS) (x1 : Int32) (x2 : Int32) (H : Heap) (locs : List Loc) (ls : Array Slot), f_X12_readSign_145 N σ x1 x2 = some R → va_P (dC, dI) vwCl (rW Q σ) H → va_D A (rW Q σ) → va_S A s.heap H locs → lv_has ls 5 [(0, .ref Q.h0), (1, .int x1), (2, .int x2)] → W p l e ({ frames := 2, cells := 0, slots := 0, locals := 120 }) s m args below meth c H locs 0 0 (MQ below (va_Qv (fun (_ : Unit) => True) (fun (_ : Unit) (t : State) => zPost dC dI A (rW Q R) (rT Q) t) A) args s 0 0 A) (F0 m 145 ls []) := by
  intro σ x1 x2 H locs ls hf hP hD hS hl
  unfold f_X12_readSign_145 at hf
  refine lv_iload_n hx hb dX12_readSign_145 rfl (lv_at hl 1 rfl) ?_
  refine lv_bipush (v := 43) hx hb dX12_readSign_146 (by decide) ?_
  refine lv_icmp_ne (tgt := 163) hx hb dX12_readSign_148 (by decide) (fun c10 => ?_) (fun c10 => ?_)
  ·
    replace hf := (if_neg c10).symm.trans hf
    exact j_X12_readSign_163 l dC dI Q N R hx hb hr hml hown hts hlocks hZ hA hK σ x1 _ _ _ hf hP hD hS (lv_sub hl [0, 1] rfl)
  ·
    replace hf := (if_pos c10).symm.trans hf
    refine lv_iload_n hx hb dX12_readSign_151 rfl (lv_at hl 2 rfl) ?_
    refine lv_bipush (v := 43) hx hb dX12_readSign_152 (by decide) ?_
    refine lv_icmp_ne (tgt := 163) hx hb dX12_readSign_154 (by decide) (fun c32 => ?_) (fun c32 => ?_)
    ·
      replace hf := (if_neg c32).symm.trans hf
      exact j_X12_readSign_163 l dC dI Q N R hx hb hr hml hown hts hlocks hZ hA hK σ x1 _ _ _ hf hP hD hS (lv_sub hl [0, 1] rfl)
    ·
      replace hf := (if_pos c32).symm.trans hf
      refine lv_sipush (v := 307) hx hb dX12_readSign_157 (by decide) ?_
      refine lv_goto (tgt := 164) hx hb dX12_readSign_160 (by decide) ?_
      refine lv_istore_n (lv' := [(3, .int 307), (0, .ref Q.h0), (1, .int x1), (2, .int x2)]) hx hb dX12_readSign_164 rfl hl (by decide) rfl (fun ls hl => ?_)
      exact j_X12_readSign_165 l dC dI Q N R hx hb hr hml hown hts hlocks hZ hA hK σ x1 307 _ _ _ hf hP hD hS (lv_sub hl [1, 2, 0] rfl)
set_option maxHeartbeats 4000000 in
set_option maxRecDepth 100000 in
theorem j_X12_readSign_127 {p : Program} {e : Env} {s : State} {m : MethodId} {args : Array Value} {below : List Frame} {meth : Method} {c : Code} {A : Nat → Prop} (l : Launch) (dC : Nat → ClassId) (dI : Nat → Nat → Nat) (Q : RQ) (N : Nat) (R : RS) (hx : p.tables.exec = Jvm.exec) (hb : c.code = cX12_readSign) (hr : meth.sig.returnType = none) (hml : c.maxLocals = 5) (hown : s.vm.findClass RX12 = some m.cls) (hts : ∀ w ∈ wzX12_readSign, w.before args s = true) (hlocks : meth.locks = false) (hZ : zAMB s) (hA : ∀ q : Nat, s.heap.size ≤ q → A q) (hK : va_K (dC, dI) vwCl (rT Q) s) : ∀ (σ : RS) (x1 : Int32) (x2 : Int32) (H : Heap) (locs : List Loc) (ls : Array Slot), f_X12_readSign_127 N σ x1 x2 = some R → va_P (dC, dI) vwCl (rW Q σ) H → va_D A (rW Q σ) → va_S A s.heap H locs → lv_has ls 5 [(0, .ref Q.h0), (1, .int x1), (2, .int x2)] → W p l e ({ frames := 2, cells := 0, slots := 0, locals := 120 }) s m args below meth c H locs 0 0 (MQ below (va_Qv (fun (_ : Unit) => True) (fun (_ : Unit) (t : State) => zPost dC dI A (rW Q R) (rT Q) t) A) args s 0 0 A) (F0 m 127 ls []) := by
  intro σ x1 x2 H locs ls hf hP hD hS hl
  unfold f_X12_readSign_127 at hf
  refine lv_iload_n hx hb dX12_readSign_127 rfl (lv_at hl 1 rfl) ?_
  refine lv_bipush (v := 45) hx hb dX12_readSign_128 (by decide) ?_
  refine lv_icmp_ne (tgt := 145) hx hb dX12_readSign_130 (by decide) (fun c9 => ?_) (fun c9 => ?_)
  ·
    replace hf := (if_neg c9).symm.trans hf
    exact j_X12_readSign_145 l dC dI Q N R hx hb hr hml hown hts hlocks hZ hA hK σ x1 x2 _ _ _ hf hP hD hS (lv_sub hl [0, 1, 2] rfl)
  ·
    replace hf := (if_pos c9).symm.trans hf
    refine lv_iload_n hx hb dX12_readSign_133 rfl (lv_at hl 2 rfl) ?_
    refine lv_bipush (v := 62) hx hb dX12_readSign_134 (by decide) ?_
    refine lv_icmp_ne (tgt := 145) hx hb dX12_readSign_136 (by decide) (fun c33 => ?_) (fun c33 => ?_)
    ·
      replace hf := (if_neg c33).symm.trans hf
      exact j_X12_readSign_145 l dC dI Q N R hx hb hr hml hown hts hlocks hZ hA hK σ x1 x2 _ _ _ hf hP hD hS (lv_sub hl [0, 1, 2] rfl)
    ·
      replace hf := (if_pos c33).symm.trans hf
      refine lv_sipush (v := 306) hx hb dX12_readSign_139 (by decide) ?_
      refine lv_goto (tgt := 164) hx hb dX12_readSign_142 (by decide) ?_
      refine lv_istore_n (lv' := [(3, .int 306), (0, .ref Q.h0), (1, .int x1), (2, .int x2)]) hx hb dX12_readSign_164 rfl hl (by decide) rfl (fun ls hl => ?_)
      exact j_X12_readSign_165 l dC dI Q N R hx hb hr hml hown hts hlocks hZ hA hK σ x1 306 _ _ _ hf hP hD hS (lv_sub hl [1, 2, 0] rfl)
set_option maxHeartbeats 4000000 in
set_option maxRecDepth 100000 in
theorem j_X12_readSign_109 {p : Program} {e : Env} {s : State} {m : MethodId} {args : Array Value} {below : List Frame} {meth : Method} {c : Code} {A : Nat → Prop} (l : Launch) (dC : Nat → ClassId) (dI : Nat → Nat → Nat) (Q : RQ) (N : Nat) (R : RS) (hx : p.tables.exec = Jvm.exec) (hb : c.code = cX12_readSign) (hr : meth.sig.returnType = none) (hml : c.maxLocals = 5) (hown : s.vm.findClass RX12 = some m.cls) (hts : ∀ w ∈ wzX12_readSign, w.before args s = true) (hlocks : meth.locks = false) (hZ : zAMB s) (hA : ∀ q : Nat, s.heap.size ≤ q → A q) (hK : va_K (dC, dI) vwCl (rT Q) s) : ∀ (σ : RS) (x1 : Int32) (x2 : Int32) (H : Heap) (locs : List Loc) (ls : Array Slot), f_X12_readSign_109 N σ x1 x2 = some R → va_P (dC, dI) vwCl (rW Q σ) H → va_D A (rW Q σ) → va_S A s.heap H locs → lv_has ls 5 [(0, .ref Q.h0), (1, .int x1), (2, .int x2)] → W p l e ({ frames := 2, cells := 0, slots := 0, locals := 120 }) s m args below meth c H locs 0 0 (MQ below (va_Qv (fun (_ : Unit) => True) (fun (_ : Unit) (t : State) => zPost dC dI A (rW Q R) (rT Q) t) A) args s 0 0 A) (F0 m 109 ls []) := by
  intro σ x1 x2 H locs ls hf hP hD hS hl
  unfold f_X12_readSign_109 at hf
  refine lv_iload_n hx hb dX12_readSign_109 rfl (lv_at hl 1 rfl) ?_
  refine lv_bipush (v := 124) hx hb dX12_readSign_110 (by decide) ?_
  refine lv_icmp_ne (tgt := 127) hx hb dX12_readSign_112 (by decide) (fun c8 => ?_) (fun c8 => ?_)
  ·
    replace hf := (if_neg c8).symm.trans hf
    exact j_X12_readSign_127 l dC dI Q N R hx hb hr hml hown hts hlocks hZ hA hK σ x1 x2 _ _ _ hf hP hD hS (lv_sub hl [0, 1, 2] rfl)
  ·
    replace hf := (if_pos c8).symm.trans hf
    refine lv_iload_n hx hb dX12_readSign_115 rfl (lv_at hl 2 rfl) ?_
    refine lv_bipush (v := 124) hx hb dX12_readSign_116 (by decide) ?_
    refine lv_icmp_ne (tgt := 127) hx hb dX12_readSign_118 (by decide) (fun c34 => ?_) (fun c34 => ?_)
    ·
      replace hf := (if_neg c34).symm.trans hf
      exact j_X12_readSign_127 l dC dI Q N R hx hb hr hml hown hts hlocks hZ hA hK σ x1 x2 _ _ _ hf hP hD hS (lv_sub hl [0, 1, 2] rfl)
    ·
      replace hf := (if_pos c34).symm.trans hf
      refine lv_sipush (v := 305) hx hb dX12_readSign_121 (by decide) ?_
      refine lv_goto (tgt := 164) hx hb dX12_readSign_124 (by decide) ?_
      refine lv_istore_n (lv' := [(3, .int 305), (0, .ref Q.h0), (1, .int x1), (2, .int x2)]) hx hb dX12_readSign_164 rfl hl (by decide) rfl (fun ls hl => ?_)
      exact j_X12_readSign_165 l dC dI Q N R hx hb hr hml hown hts hlocks hZ hA hK σ x1 305 _ _ _ hf hP hD hS (lv_sub hl [1, 2, 0] rfl)
set_option maxHeartbeats 4000000 in
set_option maxRecDepth 100000 in
theorem j_X12_readSign_91 {p : Program} {e : Env} {s : State} {m : MethodId} {args : Array Value} {below : List Frame} {meth : Method} {c : Code} {A : Nat → Prop} (l : Launch) (dC : Nat → ClassId) (dI : Nat → Nat → Nat) (Q : RQ) (N : Nat) (R : RS) (hx : p.tables.exec = Jvm.exec) (hb : c.code = cX12_readSign) (hr : meth.sig.returnType = none) (hml : c.maxLocals = 5) (hown : s.vm.findClass RX12 = some m.cls) (hts : ∀ w ∈ wzX12_readSign, w.before args s = true) (hlocks : meth.locks = false) (hZ : zAMB s) (hA : ∀ q : Nat, s.heap.size ≤ q → A q) (hK : va_K (dC, dI) vwCl (rT Q) s) : ∀ (σ : RS) (x1 : Int32) (x2 : Int32) (H : Heap) (locs : List Loc) (ls : Array Slot), f_X12_readSign_91 N σ x1 x2 = some R → va_P (dC, dI) vwCl (rW Q σ) H → va_D A (rW Q σ) → va_S A s.heap H locs → lv_has ls 5 [(0, .ref Q.h0), (1, .int x1), (2, .int x2)] → W p l e ({ frames := 2, cells := 0, slots := 0, locals := 120 }) s m args below meth c H locs 0 0 (MQ below (va_Qv (fun (_ : Unit) => True) (fun (_ : Unit) (t : State) => zPost dC dI A (rW Q R) (rT Q) t) A) args s 0 0 A) (F0 m 91 ls []) := by
  intro σ x1 x2 H locs ls hf hP hD hS hl
  unfold f_X12_readSign_91 at hf
  refine lv_iload_n hx hb dX12_readSign_91 rfl (lv_at hl 1 rfl) ?_
  refine lv_bipush (v := 38) hx hb dX12_readSign_92 (by decide) ?_
  refine lv_icmp_ne (tgt := 109) hx hb dX12_readSign_94 (by decide) (fun c7 => ?_) (fun c7 => ?_)
  ·
    replace hf := (if_neg c7).symm.trans hf
    exact j_X12_readSign_109 l dC dI Q N R hx hb hr hml hown hts hlocks hZ hA hK σ x1 x2 _ _ _ hf hP hD hS (lv_sub hl [0, 1, 2] rfl)
  ·
    replace hf := (if_pos c7).symm.trans hf
    refine lv_iload_n hx hb dX12_readSign_97 rfl (lv_at hl 2 rfl) ?_
    refine lv_bipush (v := 38) hx hb dX12_readSign_98 (by decide) ?_
    refine lv_icmp_ne (tgt := 109) hx hb dX12_readSign_100 (by decide) (fun c35 => ?_) (fun c35 => ?_)
    ·
      replace hf := (if_neg c35).symm.trans hf
      exact j_X12_readSign_109 l dC dI Q N R hx hb hr hml hown hts hlocks hZ hA hK σ x1 x2 _ _ _ hf hP hD hS (lv_sub hl [0, 1, 2] rfl)
    ·
      replace hf := (if_pos c35).symm.trans hf
      refine lv_sipush (v := 304) hx hb dX12_readSign_103 (by decide) ?_
      refine lv_goto (tgt := 164) hx hb dX12_readSign_106 (by decide) ?_
      refine lv_istore_n (lv' := [(3, .int 304), (0, .ref Q.h0), (1, .int x1), (2, .int x2)]) hx hb dX12_readSign_164 rfl hl (by decide) rfl (fun ls hl => ?_)
      exact j_X12_readSign_165 l dC dI Q N R hx hb hr hml hown hts hlocks hZ hA hK σ x1 304 _ _ _ hf hP hD hS (lv_sub hl [1, 2, 0] rfl)
set_option maxHeartbeats 4000000 in
set_option maxRecDepth 100000 in
theorem j_X12_readSign_73 {p : Program} {e : Env} {s : State} {m : MethodId} {args : Array Value} {below : List Frame} {meth : Method} {c : Code} {A : Nat → Prop} (l : Launch) (dC : Nat → ClassId) (dI : Nat → Nat → Nat) (Q : RQ) (N : Nat) (R : RS) (hx : p.tables.exec = Jvm.exec) (hb : c.code = cX12_readSign) (hr : meth.sig.returnType = none) (hml : c.maxLocals = 5) (hown : s.vm.findClass RX12 = some m.cls) (hts : ∀ w ∈ wzX12_readSign, w.before args s = true) (hlocks : meth.locks = false) (hZ : zAMB s) (hA : ∀ q : Nat, s.heap.size ≤ q → A q) (hK : va_K (dC, dI) vwCl (rT Q) s) : ∀ (σ : RS) (x1 : Int32) (x2 : Int32) (H : Heap) (locs : List Loc) (ls : Array Slot), f_X12_readSign_73 N σ x1 x2 = some R → va_P (dC, dI) vwCl (rW Q σ) H → va_D A (rW Q σ) → va_S A s.heap H locs → lv_has ls 5 [(0, .ref Q.h0), (1, .int x1), (2, .int x2)] → W p l e ({ frames := 2, cells := 0, slots := 0, locals := 120 }) s m args below meth c H locs 0 0 (MQ below (va_Qv (fun (_ : Unit) => True) (fun (_ : Unit) (t : State) => zPost dC dI A (rW Q R) (rT Q) t) A) args s 0 0 A) (F0 m 73 ls []) := by
  intro σ x1 x2 H locs ls hf hP hD hS hl
  unfold f_X12_readSign_73 at hf
  refine lv_iload_n hx hb dX12_readSign_73 rfl (lv_at hl 1 rfl) ?_
  refine lv_bipush (v := 33) hx hb dX12_readSign_74 (by decide) ?_
  refine lv_icmp_ne (tgt := 91) hx hb dX12_readSign_76 (by decide) (fun c6 => ?_) (fun c6 => ?_)
  ·
    replace hf := (if_neg c6).symm.trans hf
    exact j_X12_readSign_91 l dC dI Q N R hx hb hr hml hown hts hlocks hZ hA hK σ x1 x2 _ _ _ hf hP hD hS (lv_sub hl [0, 1, 2] rfl)
  ·
    replace hf := (if_pos c6).symm.trans hf
    refine lv_iload_n hx hb dX12_readSign_79 rfl (lv_at hl 2 rfl) ?_
    refine lv_bipush (v := 61) hx hb dX12_readSign_80 (by decide) ?_
    refine lv_icmp_ne (tgt := 91) hx hb dX12_readSign_82 (by decide) (fun c36 => ?_) (fun c36 => ?_)
    ·
      replace hf := (if_neg c36).symm.trans hf
      exact j_X12_readSign_91 l dC dI Q N R hx hb hr hml hown hts hlocks hZ hA hK σ x1 x2 _ _ _ hf hP hD hS (lv_sub hl [0, 1, 2] rfl)
    ·
      replace hf := (if_pos c36).symm.trans hf
      refine lv_sipush (v := 303) hx hb dX12_readSign_85 (by decide) ?_
      refine lv_goto (tgt := 164) hx hb dX12_readSign_88 (by decide) ?_
      refine lv_istore_n (lv' := [(3, .int 303), (0, .ref Q.h0), (1, .int x1), (2, .int x2)]) hx hb dX12_readSign_164 rfl hl (by decide) rfl (fun ls hl => ?_)
      exact j_X12_readSign_165 l dC dI Q N R hx hb hr hml hown hts hlocks hZ hA hK σ x1 303 _ _ _ hf hP hD hS (lv_sub hl [1, 2, 0] rfl)
set_option maxHeartbeats 4000000 in
set_option maxRecDepth 100000 in
theorem j_X12_readSign_55 {p : Program} {e : Env} {s : State} {m : MethodId} {args : Array Value} {below : List Frame} {meth : Method} {c : Code} {A : Nat → Prop} (l : Launch) (dC : Nat → ClassId) (dI : Nat → Nat → Nat) (Q : RQ) (N : Nat) (R : RS) (hx : p.tables.exec = Jvm.exec) (hb : c.code = cX12_readSign) (hr : meth.sig.returnType = none) (hml : c.maxLocals = 5) (hown : s.vm.findClass RX12 = some m.cls) (hts : ∀ w ∈ wzX12_readSign, w.before args s = true) (hlocks : meth.locks = false) (hZ : zAMB s) (hA : ∀ q : Nat, s.heap.size ≤ q → A q) (hK : va_K (dC, dI) vwCl (rT Q) s) : ∀ (σ : RS) (x1 : Int32) (x2 : Int32) (H : Heap) (locs : List Loc) (ls : Array Slot), f_X12_readSign_55 N σ x1 x2 = some R → va_P (dC, dI) vwCl (rW Q σ) H → va_D A (rW Q σ) → va_S A s.heap H locs → lv_has ls 5 [(0, .ref Q.h0), (1, .int x1), (2, .int x2)] → W p l e ({ frames := 2, cells := 0, slots := 0, locals := 120 }) s m args below meth c H locs 0 0 (MQ below (va_Qv (fun (_ : Unit) => True) (fun (_ : Unit) (t : State) => zPost dC dI A (rW Q R) (rT Q) t) A) args s 0 0 A) (F0 m 55 ls []) := by
  intro σ x1 x2 H locs ls hf hP hD hS hl
  unfold f_X12_readSign_55 at hf
  refine lv_iload_n hx hb dX12_readSign_55 rfl (lv_at hl 1 rfl) ?_
  refine lv_bipush (v := 61) hx hb dX12_readSign_56 (by decide) ?_
  refine lv_icmp_ne (tgt := 73) hx hb dX12_readSign_58 (by decide) (fun c5 => ?_) (fun c5 => ?_)
  ·
    replace hf := (if_neg c5).symm.trans hf
    exact j_X12_readSign_73 l dC dI Q N R hx hb hr hml hown hts hlocks hZ hA hK σ x1 x2 _ _ _ hf hP hD hS (lv_sub hl [0, 1, 2] rfl)
  ·
    replace hf := (if_pos c5).symm.trans hf
    refine lv_iload_n hx hb dX12_readSign_61 rfl (lv_at hl 2 rfl) ?_
    refine lv_bipush (v := 61) hx hb dX12_readSign_62 (by decide) ?_
    refine lv_icmp_ne (tgt := 73) hx hb dX12_readSign_64 (by decide) (fun c37 => ?_) (fun c37 => ?_)
    ·
      replace hf := (if_neg c37).symm.trans hf
      exact j_X12_readSign_73 l dC dI Q N R hx hb hr hml hown hts hlocks hZ hA hK σ x1 x2 _ _ _ hf hP hD hS (lv_sub hl [0, 1, 2] rfl)
    ·
      replace hf := (if_pos c37).symm.trans hf
      refine lv_sipush (v := 302) hx hb dX12_readSign_67 (by decide) ?_
      refine lv_goto (tgt := 164) hx hb dX12_readSign_70 (by decide) ?_
      refine lv_istore_n (lv' := [(3, .int 302), (0, .ref Q.h0), (1, .int x1), (2, .int x2)]) hx hb dX12_readSign_164 rfl hl (by decide) rfl (fun ls hl => ?_)
      exact j_X12_readSign_165 l dC dI Q N R hx hb hr hml hown hts hlocks hZ hA hK σ x1 302 _ _ _ hf hP hD hS (lv_sub hl [1, 2, 0] rfl)
set_option maxHeartbeats 4000000 in
set_option maxRecDepth 100000 in
theorem j_X12_readSign_37 {p : Program} {e : Env} {s : State} {m : MethodId} {args : Array Value} {below : List Frame} {meth : Method} {c : Code} {A : Nat → Prop} (l : Launch) (dC : Nat → ClassId) (dI : Nat → Nat → Nat) (Q : RQ) (N : Nat) (R : RS) (hx : p.tables.exec = Jvm.exec) (hb : c.code = cX12_readSign) (hr : meth.sig.returnType = none) (hml : c.maxLocals = 5) (hown : s.vm.findClass RX12 = some m.cls) (hts : ∀ w ∈ wzX12_readSign, w.before args s = true) (hlocks : meth.locks = false) (hZ : zAMB s) (hA : ∀ q : Nat, s.heap.size ≤ q → A q) (hK : va_K (dC, dI) vwCl (rT Q) s) : ∀ (σ : RS) (x1 : Int32) (x2 : Int32) (H : Heap) (locs : List Loc) (ls : Array Slot), f_X12_readSign_37 N σ x1 x2 = some R → va_P (dC, dI) vwCl (rW Q σ) H → va_D A (rW Q σ) → va_S A s.heap H locs → lv_has ls 5 [(0, .ref Q.h0), (1, .int x1), (2, .int x2)] → W p l e ({ frames := 2, cells := 0, slots := 0, locals := 120 }) s m args below meth c H locs 0 0 (MQ below (va_Qv (fun (_ : Unit) => True) (fun (_ : Unit) (t : State) => zPost dC dI A (rW Q R) (rT Q) t) A) args s 0 0 A) (F0 m 37 ls []) := by
  intro σ x1 x2 H locs ls hf hP hD hS hl
  unfold f_X12_readSign_37 at hf
  refine lv_iload_n hx hb dX12_readSign_37 rfl (lv_at hl 1 rfl) ?_
  refine lv_bipush (v := 62) hx hb dX12_readSign_38 (by decide) ?_
  refine lv_icmp_ne (tgt := 55) hx hb dX12_readSign_40 (by decide) (fun c4 => ?_) (fun c4 => ?_)
  ·
    replace hf := (if_neg c4).symm.trans hf
    exact j_X12_readSign_55 l dC dI Q N R hx hb hr hml hown hts hlocks hZ hA hK σ x1 x2 _ _ _ hf hP hD hS (lv_sub hl [0, 1, 2] rfl)
  ·
    replace hf := (if_pos c4).symm.trans hf
    refine lv_iload_n hx hb dX12_readSign_43 rfl (lv_at hl 2 rfl) ?_
    refine lv_bipush (v := 61) hx hb dX12_readSign_44 (by decide) ?_
    refine lv_icmp_ne (tgt := 55) hx hb dX12_readSign_46 (by decide) (fun c38 => ?_) (fun c38 => ?_)
    ·
      replace hf := (if_neg c38).symm.trans hf
      exact j_X12_readSign_55 l dC dI Q N R hx hb hr hml hown hts hlocks hZ hA hK σ x1 x2 _ _ _ hf hP hD hS (lv_sub hl [0, 1, 2] rfl)
    ·
      replace hf := (if_pos c38).symm.trans hf
      refine lv_sipush (v := 301) hx hb dX12_readSign_49 (by decide) ?_
      refine lv_goto (tgt := 164) hx hb dX12_readSign_52 (by decide) ?_
      refine lv_istore_n (lv' := [(3, .int 301), (0, .ref Q.h0), (1, .int x1), (2, .int x2)]) hx hb dX12_readSign_164 rfl hl (by decide) rfl (fun ls hl => ?_)
      exact j_X12_readSign_165 l dC dI Q N R hx hb hr hml hown hts hlocks hZ hA hK σ x1 301 _ _ _ hf hP hD hS (lv_sub hl [1, 2, 0] rfl)
set_option maxHeartbeats 4000000 in
set_option maxRecDepth 100000 in
theorem c_X12_readSign (l : Launch) (dC : Nat → ClassId) (dI : Nat → Nat → Nat) (sz : Nat) (Q : RQ) (N : Nat) (σ : RS) (x1 : Int32) (R : RS) (hf : f_X12_readSign N σ x1 = some R) : Met l yX12_readSign wzX12_readSign ({ frames := 2, cells := 0, slots := 0, locals := 120 }) (va_Pc [.ref Q.h0, .int x1] (zPre dC dI sz (rW Q σ) (rT Q))) (va_Qv (fun (_ : Unit) => True) (fun (_ : Unit) (t : State) => zPost dC dI (va_A (rW Q σ) sz) (rW Q R) (rT Q) t) (va_A (rW Q σ) sz)) 0 0 (va_A (rW Q σ) sz) := by
  refine Met.ofW (cc := cX12_readSign) (maxL := 5) (ret := none) (by decide) rfl ?_
  intro p e s m args below meth c s₁ B hml hv
  obtain ⟨rfl, hsz, hZ, hP, hK, hD0⟩ := hv
  have hx := B.exec
  have hb := B.bytes
  have hr := B.returns
  have hts := atoms_spec (ws := wzX12_readSign) B.pre
  have hown : s.vm.findClass RX12 = some m.cls := findClass_of_methodNamed B.named
  have hlocks := B.notSynchronized
  subst hsz
  have hD := hD0.self (sz := s.heap.size)
  generalize hAe : va_A (rW Q σ) s.heap.size = A at hD ⊢
  have hA : ∀ q : Nat, s.heap.size ≤ q → A q := fun q h => by rw [← hAe]; exact Or.inr h
  have hS : va_S A s.heap s.heap [] := va_S.rf
  have hl := lv_entry ([.ref Q.h0, .int x1]) (n := 5) (Nat.le_of_ble_eq_true rfl)
  rw [lg_entry_eq]
  generalize (lg_sl ([.ref Q.h0, .int x1]) ++ List.replicate (5 - (lg_sl ([.ref Q.h0, .int x1])).length) Slot.unset).toArray = ls at hl ⊢
  have hl : lv_has ls 5 [(0, .ref Q.h0), (1, .int x1)] := hl
  unfold f_X12_readSign at hf
  refine lv_aload_n hx hb dX12_readSign_0 rfl (lv_at hl 0 rfl) ?_
  refine lv_dup hx hb dX12_readSign_1 rfl ?_
  refine rG_12 (v := (σ.i 12)) hx hb hts i_X12_readSign_X12 hown hK hP (hts (.fieldLink RX12 297 "StatementRules2Model" "to" "I") k_X12_readSign_fieldLink_RX12_297_SRModel_to_I) dX12_readSign_2 rfl ?_
  refine lv_iconst (v := 1) hx hb dX12_readSign_5 (by decide) ?_
  refine lv_iadd hx hb dX12_readSign_6 ?_
  refine rP_12 hx hb hts i_X12_readSign_X12 hown hK hP hD hS (hts (.fieldLink RX12 297 "StatementRules2Model" "to" "I") k_X12_readSign_fieldLink_RX12_297_SRModel_to_I) dX12_readSign_7 (fun H locs hP hD hS => ?_)
  refine lv_aload_n hx hb dX12_readSign_10 rfl (lv_at hl 0 rfl) ?_
  refine lv_aload_n hx hb dX12_readSign_11 rfl (lv_at hl 0 rfl) ?_
  refine rG_12 (v := ((σ.i 12) + 1)) hx hb hts i_X12_readSign_X12 hown hK hP (hts (.fieldLink RX12 297 "StatementRules2Model" "to" "I") k_X12_readSign_fieldLink_RX12_297_SRModel_to_I) dX12_readSign_12 rfl ?_
  obtain ⟨p1, hcp1, hf⟩ := hf_bind hf
  have hFc := r_free hD hS hA
  refine va_calli (va_runV (As := [.int ((σ.i 12) + 1)]) (rest := []) ⟨hx, hb, hml, hown, hts⟩ (c_X12_at l dC dI _ Q N (RS.setI σ 12 ((σ.i 12) + 1)) ((σ.i 12) + 1) p1 hcp1) (cwV 1 hts hX12_readSign_X12_at_v300 rfl rfl rfl (by decide +kernel) ⟨Nat.le_of_ble_eq_true rfl, Nat.le_of_ble_eq_true rfl⟩) ⟨zPre.blind, va_recv hK hP (ci := 11) (q0 := 0) rfl rfl, zPre.go hZ hP hK hD⟩ rfl rfl hl.1 rfl (lv_room (Nat.le_of_ble_eq_true rfl)) dX12_readSign_15 ⟨Nat.le_of_ble_eq_true rfl, Nat.le_of_ble_eq_true rfl⟩) hS (fun q _ h => hFc q h) hFc (fun r2 u9 t9 H1 locs ht hvm hw hB hz1 hk1 hS => ?_)
  obtain ⟨hP, hK1, hD1⟩ := hB
  rw [ht] at hP
  have hD := hD1.weaken (fun _ _ _ h => hFc _ h)
  generalize H1 = H at hP hS ⊢
  obtain rfl : r2 = p1.1 := hw
  refine lv_istore_n (lv' := [(2, .int p1.1), (0, .ref Q.h0), (1, .int x1)]) hx hb dX12_readSign_18 rfl hl (by decide) rfl (fun ls hl => ?_)
  refine lv_iload_n hx hb dX12_readSign_19 rfl (lv_at hl 2 rfl) ?_
  refine lv_bipush (v := 60) hx hb dX12_readSign_20 (by decide) ?_
  refine lv_icmp_ne (tgt := 37) hx hb dX12_readSign_22 (by decide) (fun c3 => ?_) (fun c3 => ?_)
  ·
    replace hf := (if_neg c3).symm.trans hf
    exact j_X12_readSign_37 l dC dI Q N R hx hb hr hml hown hts hlocks hZ hA hK p1.2 x1 p1.1 _ _ _ hf hP hD hS (lv_sub hl [1, 2, 0] rfl)
  ·
    replace hf := (if_pos c3).symm.trans hf
    refine lv_iload_n hx hb dX12_readSign_25 rfl (lv_at hl 0 rfl) ?_
    refine lv_bipush (v := 61) hx hb dX12_readSign_26 (by decide) ?_
    refine lv_icmp_ne (tgt := 37) hx hb dX12_readSign_28 (by decide) (fun c39 => ?_) (fun c39 => ?_)
    ·
      replace hf := (if_neg c39).symm.trans hf
      exact j_X12_readSign_37 l dC dI Q N R hx hb hr hml hown hts hlocks hZ hA hK p1.2 x1 p1.1 _ _ _ hf hP hD hS (lv_sub hl [1, 2, 0] rfl)
    ·
      replace hf := (if_pos c39).symm.trans hf
      refine lv_sipush (v := 300) hx hb dX12_readSign_31 (by decide) ?_
      refine lv_goto (tgt := 164) hx hb dX12_readSign_34 (by decide) ?_
      refine lv_istore_n (lv' := [(3, .int 300), (2, .int p1.1), (0, .ref Q.h0), (1, .int x1)]) hx hb dX12_readSign_164 rfl hl (by decide) rfl (fun ls hl => ?_)
      exact j_X12_readSign_165 l dC dI Q N R hx hb hr hml hown hts hlocks hZ hA hK p1.2 x1 300 _ _ _ hf hP hD hS (lv_sub hl [2, 3, 0] rfl)
theorem k_X12_next_fieldLink_RX12_291_SRModel_fault_I : Cond.fieldLink RX12 291 "StatementRules2Model" "fault" "I" ∈ wzX12_next := List.mem_cons_of_mem _ (List.mem_append_left _ (List.mem_of_getElem? (i := 0) rfl))
theorem i_X12_next_X12 : ∀ w ∈ wsX120, w ∈ wzX12_next := fun _ h => List.mem_cons_of_mem _ (List.mem_append_right _ (List.mem_append_left _ (h)))
theorem k_X12_next_fieldLink_RX12_294_SRModel_tokens_I : Cond.fieldLink RX12 294 "StatementRules2Model" "tokens" "I" ∈ wzX12_next := List.mem_cons_of_mem _ (List.mem_append_left _ (List.mem_of_getElem? (i := 1) rfl))
theorem k_X12_next_fieldLink_RX12_297_SRModel_to_I : Cond.fieldLink RX12 297 "StatementRules2Model" "to" "I" ∈ wzX12_next := List.mem_cons_of_mem _ (List.mem_append_left _ (List.mem_of_getElem? (i := 2) rfl))
theorem k_X12_next_fieldLink_RX12_276_SRModel_taped_I : Cond.fieldLink RX12 276 "StatementRules2Model" "taped" "I" ∈ wzX12_next := List.mem_cons_of_mem _ (List.mem_append_left _ (List.mem_of_getElem? (i := 3) rfl))
theorem k_X12_next_fieldLink_RX12_304_SRModel_from_I : Cond.fieldLink RX12 304 "StatementRules2Model" "from" "I" ∈ wzX12_next := List.mem_cons_of_mem _ (List.mem_append_left _ (List.mem_of_getElem? (i := 4) rfl))
theorem k_X12_next_fieldLink_RX12_314_SRModel_number_I : Cond.fieldLink RX12 314 "StatementRules2Model" "number" "I" ∈ wzX12_next := List.mem_cons_of_mem _ (List.mem_append_left _ (List.mem_of_getElem? (i := 5) rfl))
theorem k_X12_next_fieldLink_RX12_307_SRModel_tok_I : Cond.fieldLink RX12 307 "StatementRules2Model" "tok" "I" ∈ wzX12_next := List.mem_cons_of_mem _ (List.mem_append_left _ (List.mem_of_getElem? (i := 6) rfl))
set_option maxHeartbeats 4000000 in
set_option maxRecDepth 100000 in
theorem j_X12_next_211 {p : Program} {e : Env} {s : State} {m : MethodId} {args : Array Value} {below : List Frame} {meth : Method} {c : Code} {A : Nat → Prop} (l : Launch) (dC : Nat → ClassId) (dI : Nat → Nat → Nat) (Q : RQ) (N : Nat) (R : RS) (hx : p.tables.exec = Jvm.exec) (hb : c.code = cX12_next) (hr : meth.sig.returnType = none) (hml : c.maxLocals = 2) (hown : s.vm.findClass RX12 = some m.cls) (hts : ∀ w ∈ wzX12_next, w.before args s = true) (hlocks : meth.locks = false) (hZ : zAMB s) (hA : ∀ q : Nat, s.heap.size ≤ q → A q) (hK : va_K (dC, dI) vwCl (rT Q) s) : ∀ (σ : RS) (H : Heap) (locs : List Loc) (ls : Array Slot), f_X12_next_211 N σ = some R → va_P (dC, dI) vwCl (rW Q σ) H → va_D A (rW Q σ) → va_S A s.heap H locs → lv_has ls 2 [] → W p l e ({ frames := 3, cells := 0, slots := 0, locals := 180 }) s m args below meth c H locs 0 0 (MQ below (va_Qv (fun (_ : Unit) => True) (fun (_ : Unit) (t : State) => zPost dC dI A (rW Q R) (rT Q) t) A) args s 0 0 A) (F0 m 211 ls []) := by
  intro σ  H locs ls hf hP hD hS hl
  unfold f_X12_next_211 at hf
  refine lv_goto (tgt := 233) hx hb dX12_next_211 (by decide) ?_
  obtain rfl := Option.some.inj hf
  exact W.vret hx hb hr (fun t ht hW => ⟨⟨(), rfl, trivial, by rw [ht]; exact hP, va_K.moved hW.alike hK, hD⟩, hS.F ht⟩) hS.2.2 dX12_next_233
set_option maxHeartbeats 4000000 in
set_option maxRecDepth 100000 in
theorem j_X12_next_116 {p : Program} {e : Env} {s : State} {m : MethodId} {args : Array Value} {below : List Frame} {meth : Method} {c : Code} {A : Nat → Prop} (l : Launch) (dC : Nat → ClassId) (dI : Nat → Nat → Nat) (Q : RQ) (N : Nat) (R : RS) (hx : p.tables.exec = Jvm.exec) (hb : c.code = cX12_next) (hr : meth.sig.returnType = none) (hml : c.maxLocals = 2) (hown : s.vm.findClass RX12 = some m.cls) (hts : ∀ w ∈ wzX12_next, w.before args s = true) (hlocks : meth.locks = false) (hZ : zAMB s) (hA : ∀ q : Nat, s.heap.size ≤ q → A q) (hK : va_K (dC, dI) vwCl (rT Q) s) : ∀ (n9 : Nat), ∀ (σ : RS) (H : Heap) (locs : List Loc) (ls : Array Slot), f_X12_next_116 N n9 σ = some R → va_P (dC, dI) vwCl (rW Q σ) H → va_D A (rW Q σ) → va_S A s.heap H locs → lv_has ls 2 [(0, .ref Q.h0)] → W p l e ({ frames := 3, cells := 0, slots := 0, locals := 180 }) s m args below meth c H locs 0 0 (MQ below (va_Qv (fun (_ : Unit) => True) (fun (_ : Unit) (t : State) => zPost dC dI A (rW Q R) (rT Q) t) A) args s 0 0 A) (F0 m 116 ls []) := by
  intro n9
  induction n9 with
  | zero => intro σ  H locs ls hf; exact absurd hf (by intro h9; cases h9)
  | succ n9 ih =>
    intro σ  H locs ls hf hP hD hS hl
    replace hf : b_X12_next_116 N (f_X12_next_116 N n9) σ  = some R := hf
    unfold b_X12_next_116 at hf
    refine lv_aload_n hx hb dX12_next_116 rfl (lv_at hl 0 rfl) ?_
    refine lv_aload_n hx hb dX12_next_117 rfl (lv_at hl 0 rfl) ?_
    refine rG_12 (v := (σ.i 12)) hx hb hts i_X12_next_X12 hown hK hP (hts (.fieldLink RX12 297 "StatementRules2Model" "to" "I") k_X12_next_fieldLink_RX12_297_SRModel_to_I) dX12_next_118 rfl ?_
    obtain ⟨p16, hcp16, hf⟩ := hf_bind hf
    have hFc := r_free hD hS hA
    refine va_calli (va_runV (As := [.int (σ.i 12)]) (rest := []) ⟨hx, hb, hml, hown, hts⟩ (c_X12_at l dC dI _ Q N σ (σ.i 12) p16 hcp16) (cwV 1 hts hX12_next_X12_at_v300 rfl rfl rfl (by decide +kernel) ⟨Nat.le_of_ble_eq_true rfl, Nat.le_of_ble_eq_true rfl⟩) ⟨zPre.blind, va_recv hK hP (ci := 11) (q0 := 0) rfl rfl, zPre.go hZ hP hK hD⟩ rfl rfl hl.1 rfl (lv_room (Nat.le_of_ble_eq_true rfl)) dX12_next_121 ⟨Nat.le_of_ble_eq_true rfl, Nat.le_of_ble_eq_true rfl⟩) hS (fun q _ h => hFc q h) hFc (fun r17 u9 t9 H1 locs ht hvm hw hB hz1 hk1 hS => ?_)
    obtain ⟨hP, hK1, hD1⟩ := hB
    rw [ht] at hP
    have hD := hD1.weaken (fun _ _ _ h => hFc _ h)
    generalize H1 = H at hP hS ⊢
    obtain rfl : r17 = p16.1 := hw
    obtain ⟨p18, hcp18, hf⟩ := hf_bind hf
    have hFc := r_free hD hS hA
    refine va_calli (va_runS (As := [.int p16.1]) (rest := []) ⟨hx, hb, hml, hown, hts⟩ (c_X12_isDigit l dC dI _ Q N p16.2 p16.1 p18 hcp18) (va_cwS 1 hts hX12_next_X12_isDigit_s310 rfl rfl rfl (by decide +kernel) ⟨Nat.le_of_ble_eq_true rfl, Nat.le_of_ble_eq_true rfl⟩) ⟨zPre.blind, zPre.go hZ hP hK hD⟩ rfl rfl hl.1 rfl (lv_room (Nat.le_of_ble_eq_true rfl)) dX12_next_124 ⟨Nat.le_of_ble_eq_true rfl, Nat.le_of_ble_eq_true rfl⟩) hS (fun q _ h => hFc q h) hFc (fun r19 u9 t9 H1 locs ht hvm hw hB hz1 hk1 hS => ?_)
    obtain ⟨hP, hK1, hD1⟩ := hB
    rw [ht] at hP
    have hD := hD1.weaken (fun _ _ _ h => hFc _ h)
    generalize H1 = H at hP hS ⊢
    obtain rfl : r19 = p18.1 := hw
    refine lv_if_eq (tgt := 187) hx hb dX12_next_127 (by decide) (fun c20 => ?_) (fun c20 => ?_)
    ·
      replace hf := (if_pos c20).symm.trans hf
      refine lv_aload_n hx hb dX12_next_187 rfl (lv_at hl 0 rfl) ?_
      refine lv_aload_n hx hb dX12_next_188 rfl (lv_at hl 0 rfl) ?_
      refine rG_12 (v := (p18.2.i 12)) hx hb hts i_X12_next_X12 hown hK hP (hts (.fieldLink RX12 297 "StatementRules2Model" "to" "I") k_X12_next_fieldLink_RX12_297_SRModel_to_I) dX12_next_189 rfl ?_
      refine lv_aload_n hx hb dX12_next_192 rfl (lv_at hl 0 rfl) ?_
      refine rG_11 (v := (p18.2.i 11)) hx hb hts i_X12_next_X12 hown hK hP (hts (.fieldLink RX12 304 "StatementRules2Model" "from" "I") k_X12_next_fieldLink_RX12_304_SRModel_from_I) dX12_next_193 rfl ?_
      refine lv_isub hx hb dX12_next_196 ?_
      refine lv_bipush (v := 9) hx hb dX12_next_197 (by decide) ?_
      refine lv_icmp_le (tgt := 207) hx hb dX12_next_199 (by decide) (fun c21 => ?_) (fun c21 => ?_)
      ·
        replace hf := (if_pos c21).symm.trans hf
        refine lv_iconst (v := 1) hx hb dX12_next_207 (by decide) ?_
        refine rP_10 hx hb hts i_X12_next_X12 hown hK hP hD hS (hts (.fieldLink RX12 307 "StatementRules2Model" "tok" "I") k_X12_next_fieldLink_RX12_307_SRModel_tok_I) dX12_next_208 (fun H locs hP hD hS => ?_)
        exact j_X12_next_211 l dC dI Q N R hx hb hr hml hown hts hlocks hZ hA hK (RS.setI p18.2 10 1) _ _ _ hf hP hD hS (lv_sub hl [] rfl)
      ·
        replace hf := (if_neg c21).symm.trans hf
        refine lv_bipush (v := 6) hx hb dX12_next_202 (by decide) ?_
        refine lv_goto (tgt := 208) hx hb dX12_next_204 (by decide) ?_
        refine rP_10 hx hb hts i_X12_next_X12 hown hK hP hD hS (hts (.fieldLink RX12 307 "StatementRules2Model" "tok" "I") k_X12_next_fieldLink_RX12_307_SRModel_tok_I) dX12_next_208 (fun H locs hP hD hS => ?_)
        exact j_X12_next_211 l dC dI Q N R hx hb hr hml hown hts hlocks hZ hA hK (RS.setI p18.2 10 6) _ _ _ hf hP hD hS (lv_sub hl [] rfl)
    ·
      replace hf := (if_neg c20).symm.trans hf
      refine lv_aload_n hx hb dX12_next_130 rfl (lv_at hl 0 rfl) ?_
      refine lv_aload_n hx hb dX12_next_131 rfl (lv_at hl 0 rfl) ?_
      refine rG_12 (v := (p18.2.i 12)) hx hb hts i_X12_next_X12 hown hK hP (hts (.fieldLink RX12 297 "StatementRules2Model" "to" "I") k_X12_next_fieldLink_RX12_297_SRModel_to_I) dX12_next_132 rfl ?_
      refine lv_aload_n hx hb dX12_next_135 rfl (lv_at hl 0 rfl) ?_
      refine rG_11 (v := (p18.2.i 11)) hx hb hts i_X12_next_X12 hown hK hP (hts (.fieldLink RX12 304 "StatementRules2Model" "from" "I") k_X12_next_fieldLink_RX12_304_SRModel_from_I) dX12_next_136 rfl ?_
      refine lv_isub hx hb dX12_next_139 ?_
      refine lv_bipush (v := 9) hx hb dX12_next_140 (by decide) ?_
      refine lv_icmp_ge (tgt := 167) hx hb dX12_next_142 (by decide) (fun c22 => ?_) (fun c22 => ?_)
      ·
        replace hf := (if_pos c22).symm.trans hf
        refine lv_aload_n hx hb dX12_next_167 rfl (lv_at hl 0 rfl) ?_
        refine rG_14 (v := (p18.2.i 14)) hx hb hts i_X12_next_X12 hown hK hP (hts (.fieldLink RX12 314 "StatementRules2Model" "number" "I") k_X12_next_fieldLink_RX12_314_SRModel_number_I) dX12_next_168 rfl ?_
        refine rP_14 hx hb hts i_X12_next_X12 hown hK hP hD hS (hts (.fieldLink RX12 314 "StatementRules2Model" "number" "I") k_X12_next_fieldLink_RX12_314_SRModel_number_I) dX12_next_171 (fun H locs hP hD hS => ?_)
        refine lv_aload_n hx hb dX12_next_174 rfl (lv_at hl 0 rfl) ?_
        refine lv_dup hx hb dX12_next_175 rfl ?_
        refine rG_12 (v := (p18.2.i 12)) hx hb hts i_X12_next_X12 hown hK hP (hts (.fieldLink RX12 297 "StatementRules2Model" "to" "I") k_X12_next_fieldLink_RX12_297_SRModel_to_I) dX12_next_176 rfl ?_
        refine lv_iconst (v := 1) hx hb dX12_next_179 (by decide) ?_
        refine lv_iadd hx hb dX12_next_180 ?_
        refine rP_12 hx hb hts i_X12_next_X12 hown hK hP hD hS (hts (.fieldLink RX12 297 "StatementRules2Model" "to" "I") k_X12_next_fieldLink_RX12_297_SRModel_to_I) dX12_next_181 (fun H locs hP hD hS => ?_)
        refine lv_goto (tgt := 116) hx hb dX12_next_184 (by decide) ?_
        exact ih (RS.setI (RS.setI p18.2 14 (p18.2.i 14)) 12 ((p18.2.i 12) + 1)) _ _ _ hf hP hD hS (lv_sub hl [0] rfl)
      ·
        replace hf := (if_neg c22).symm.trans hf
        refine lv_bipush (v := 10) hx hb dX12_next_145 (by decide) ?_
        refine lv_aload_n hx hb dX12_next_147 rfl (lv_at hl 0 rfl) ?_
        refine rG_14 (v := (p18.2.i 14)) hx hb hts i_X12_next_X12 hown hK hP (hts (.fieldLink RX12 314 "StatementRules2Model" "number" "I") k_X12_next_fieldLink_RX12_314_SRModel_number_I) dX12_next_148 rfl ?_
        refine lv_imul hx hb dX12_next_151 ?_
        refine lv_aload_n hx hb dX12_next_152 rfl (lv_at hl 0 rfl) ?_
        refine lv_aload_n hx hb dX12_next_153 rfl (lv_at hl 0 rfl) ?_
        refine rG_12 (v := (p18.2.i 12)) hx hb hts i_X12_next_X12 hown hK hP (hts (.fieldLink RX12 297 "StatementRules2Model" "to" "I") k_X12_next_fieldLink_RX12_297_SRModel_to_I) dX12_next_154 rfl ?_
        obtain ⟨p23, hcp23, hf⟩ := hf_bind hf
        have hFc := r_free hD hS hA
        refine va_calli (va_runV (As := [.int (p18.2.i 12)]) (rest := [.int (10 * (p18.2.i 14)), .ref Q.h0]) ⟨hx, hb, hml, hown, hts⟩ (c_X12_at l dC dI _ Q N p18.2 (p18.2.i 12) p23 hcp23) (cwV 1 hts hX12_next_X12_at_v300 rfl rfl rfl (by decide +kernel) ⟨Nat.le_of_ble_eq_true rfl, Nat.le_of_ble_eq_true rfl⟩) ⟨zPre.blind, va_recv hK hP (ci := 11) (q0 := 0) rfl rfl, zPre.go hZ hP hK hD⟩ rfl rfl hl.1 rfl (lv_room (Nat.le_of_ble_eq_true rfl)) dX12_next_157 ⟨Nat.le_of_ble_eq_true rfl, Nat.le_of_ble_eq_true rfl⟩) hS (fun q _ h => hFc q h) hFc (fun r24 u9 t9 H1 locs ht hvm hw hB hz1 hk1 hS => ?_)
        obtain ⟨hP, hK1, hD1⟩ := hB
        rw [ht] at hP
        have hD := hD1.weaken (fun _ _ _ h => hFc _ h)
        generalize H1 = H at hP hS ⊢
        obtain rfl : r24 = p23.1 := hw
        refine lv_iadd hx hb dX12_next_160 ?_
        refine lv_bipush (v := 48) hx hb dX12_next_161 (by decide) ?_
        refine lv_isub hx hb dX12_next_163 ?_
        refine lv_goto (tgt := 171) hx hb dX12_next_164 (by decide) ?_
        refine rP_14 hx hb hts i_X12_next_X12 hown hK hP hD hS (hts (.fieldLink RX12 314 "StatementRules2Model" "number" "I") k_X12_next_fieldLink_RX12_314_SRModel_number_I) dX12_next_171 (fun H locs hP hD hS => ?_)
        refine lv_aload_n hx hb dX12_next_174 rfl (lv_at hl 0 rfl) ?_
        refine lv_dup hx hb dX12_next_175 rfl ?_
        refine rG_12 (v := (p23.2.i 12)) hx hb hts i_X12_next_X12 hown hK hP (hts (.fieldLink RX12 297 "StatementRules2Model" "to" "I") k_X12_next_fieldLink_RX12_297_SRModel_to_I) dX12_next_176 rfl ?_
        refine lv_iconst (v := 1) hx hb dX12_next_179 (by decide) ?_
        refine lv_iadd hx hb dX12_next_180 ?_
        refine rP_12 hx hb hts i_X12_next_X12 hown hK hP hD hS (hts (.fieldLink RX12 297 "StatementRules2Model" "to" "I") k_X12_next_fieldLink_RX12_297_SRModel_to_I) dX12_next_181 (fun H locs hP hD hS => ?_)
        refine lv_goto (tgt := 116) hx hb dX12_next_184 (by decide) ?_
        exact ih (RS.setI (RS.setI p23.2 14 (((10 * (p18.2.i 14)) + p23.1) - 48)) 12 ((p23.2.i 12) + 1)) _ _ _ hf hP hD hS (lv_sub hl [0] rfl)
set_option maxHeartbeats 4000000 in
set_option maxRecDepth 100000 in
theorem j_X12_next_68 {p : Program} {e : Env} {s : State} {m : MethodId} {args : Array Value} {below : List Frame} {meth : Method} {c : Code} {A : Nat → Prop} (l : Launch) (dC : Nat → ClassId) (dI : Nat → Nat → Nat) (Q : RQ) (N : Nat) (R : RS) (hx : p.tables.exec = Jvm.exec) (hb : c.code = cX12_next) (hr : meth.sig.returnType = none) (hml : c.maxLocals = 2) (hown : s.vm.findClass RX12 = some m.cls) (hts : ∀ w ∈ wzX12_next, w.before args s = true) (hlocks : meth.locks = false) (hZ : zAMB s) (hA : ∀ q : Nat, s.heap.size ≤ q → A q) (hK : va_K (dC, dI) vwCl (rT Q) s) : ∀ (σ : RS) (H : Heap) (locs : List Loc) (ls : Array Slot), f_X12_next_68 N σ = some R → va_P (dC, dI) vwCl (rW Q σ) H → va_D A (rW Q σ) → va_S A s.heap H locs → lv_has ls 2 [(0, .ref Q.h0)] → W p l e ({ frames := 3, cells := 0, slots := 0, locals := 180 }) s m args below meth c H locs 0 0 (MQ below (va_Qv (fun (_ : Unit) => True) (fun (_ : Unit) (t : State) => zPost dC dI A (rW Q R) (rT Q) t) A) args s 0 0 A) (F0 m 68 ls []) := by
  intro σ  H locs ls hf hP hD hS hl
  unfold f_X12_next_68 at hf
  refine lv_aload_n hx hb dX12_next_68 rfl (lv_at hl 0 rfl) ?_
  refine lv_aload_n hx hb dX12_next_69 rfl (lv_at hl 0 rfl) ?_
  refine rG_12 (v := (σ.i 12)) hx hb hts i_X12_next_X12 hown hK hP (hts (.fieldLink RX12 297 "StatementRules2Model" "to" "I") k_X12_next_fieldLink_RX12_297_SRModel_to_I) dX12_next_70 rfl ?_
  refine rP_11 hx hb hts i_X12_next_X12 hown hK hP hD hS (hts (.fieldLink RX12 304 "StatementRules2Model" "from" "I") k_X12_next_fieldLink_RX12_304_SRModel_from_I) dX12_next_73 (fun H locs hP hD hS => ?_)
  refine lv_aload_n hx hb dX12_next_76 rfl (lv_at hl 0 rfl) ?_
  refine lv_aload_n hx hb dX12_next_77 rfl (lv_at hl 0 rfl) ?_
  refine rG_11 (v := (σ.i 12)) hx hb hts i_X12_next_X12 hown hK hP (hts (.fieldLink RX12 304 "StatementRules2Model" "from" "I") k_X12_next_fieldLink_RX12_304_SRModel_from_I) dX12_next_78 rfl ?_
  obtain ⟨p3, hcp3, hf⟩ := hf_bind hf
  have hFc := r_free hD hS hA
  refine va_calli (va_runV (As := [.int (σ.i 12)]) (rest := []) ⟨hx, hb, hml, hown, hts⟩ (c_X12_at l dC dI _ Q N (RS.setI σ 11 (σ.i 12)) (σ.i 12) p3 hcp3) (cwV 1 hts hX12_next_X12_at_v300 rfl rfl rfl (by decide +kernel) ⟨Nat.le_of_ble_eq_true rfl, Nat.le_of_ble_eq_true rfl⟩) ⟨zPre.blind, va_recv hK hP (ci := 11) (q0 := 0) rfl rfl, zPre.go hZ hP hK hD⟩ rfl rfl hl.1 rfl (lv_room (Nat.le_of_ble_eq_true rfl)) dX12_next_81 ⟨Nat.le_of_ble_eq_true rfl, Nat.le_of_ble_eq_true rfl⟩) hS (fun q _ h => hFc q h) hFc (fun r4 u9 t9 H1 locs ht hvm hw hB hz1 hk1 hS => ?_)
  obtain ⟨hP, hK1, hD1⟩ := hB
  rw [ht] at hP
  have hD := hD1.weaken (fun _ _ _ h => hFc _ h)
  generalize H1 = H at hP hS ⊢
  obtain rfl : r4 = p3.1 := hw
  refine lv_istore_n (lv' := [(1, .int p3.1), (0, .ref Q.h0)]) hx hb dX12_next_84 rfl hl (by decide) rfl (fun ls hl => ?_)
  refine lv_aload_n hx hb dX12_next_85 rfl (lv_at hl 1 rfl) ?_
  refine rG_11 (v := (p3.2.i 11)) hx hb hts i_X12_next_X12 hown hK hP (hts (.fieldLink RX12 304 "StatementRules2Model" "from" "I") k_X12_next_fieldLink_RX12_304_SRModel_from_I) dX12_next_86 rfl ?_
  refine lv_aload_n hx hb dX12_next_89 rfl (lv_at hl 1 rfl) ?_
  refine rG_2 (v := (p3.2.i 2)) hx hb hts i_X12_next_X12 hown hK hP (hts (.fieldLink RX12 276 "StatementRules2Model" "taped" "I") k_X12_next_fieldLink_RX12_276_SRModel_taped_I) dX12_next_90 rfl ?_
  refine lv_icmp_ne (tgt := 104) hx hb dX12_next_93 (by decide) (fun c5 => ?_) (fun c5 => ?_)
  ·
    replace hf := (if_neg c5).symm.trans hf
    refine lv_iload_n hx hb dX12_next_104 rfl (lv_at hl 0 rfl) ?_
    obtain ⟨p6, hcp6, hf⟩ := hf_bind hf
    have hFc := r_free hD hS hA
    refine va_calli (va_runS (As := [.int p3.1]) (rest := []) ⟨hx, hb, hml, hown, hts⟩ (c_X12_isDigit l dC dI _ Q N p3.2 p3.1 p6 hcp6) (va_cwS 1 hts hX12_next_X12_isDigit_s310 rfl rfl rfl (by decide +kernel) ⟨Nat.le_of_ble_eq_true rfl, Nat.le_of_ble_eq_true rfl⟩) ⟨zPre.blind, zPre.go hZ hP hK hD⟩ rfl rfl hl.1 rfl (lv_room (Nat.le_of_ble_eq_true rfl)) dX12_next_105 ⟨Nat.le_of_ble_eq_true rfl, Nat.le_of_ble_eq_true rfl⟩) hS (fun q _ h => hFc q h) hFc (fun r7 u9 t9 H1 locs ht hvm hw hB hz1 hk1 hS => ?_)
    obtain ⟨hP, hK1, hD1⟩ := hB
    rw [ht] at hP
    have hD := hD1.weaken (fun _ _ _ h => hFc _ h)
    generalize H1 = H at hP hS ⊢
    obtain rfl : r7 = p6.1 := hw
    refine lv_if_eq (tgt := 214) hx hb dX12_next_108 (by decide) (fun c8 => ?_) (fun c8 => ?_)
    ·
      replace hf := (if_pos c8).symm.trans hf
      refine lv_iload_n hx hb dX12_next_214 rfl (lv_at hl 0 rfl) ?_
      obtain ⟨p9, hcp9, hf⟩ := hf_bind hf
      have hFc := r_free hD hS hA
      refine va_calli (va_runS (As := [.int p3.1]) (rest := []) ⟨hx, hb, hml, hown, hts⟩ (c_X12_isLetter l dC dI _ Q N p6.2 p3.1 p9 hcp9) (va_cwS 1 hts hX12_next_X12_isLetter_s317 rfl rfl rfl (by decide +kernel) ⟨Nat.le_of_ble_eq_true rfl, Nat.le_of_ble_eq_true rfl⟩) ⟨zPre.blind, zPre.go hZ hP hK hD⟩ rfl rfl hl.1 rfl (lv_room (Nat.le_of_ble_eq_true rfl)) dX12_next_215 ⟨Nat.le_of_ble_eq_true rfl, Nat.le_of_ble_eq_true rfl⟩) hS (fun q _ h => hFc q h) hFc (fun r10 u9 t9 H1 locs ht hvm hw hB hz1 hk1 hS => ?_)
      obtain ⟨hP, hK1, hD1⟩ := hB
      rw [ht] at hP
      have hD := hD1.weaken (fun _ _ _ h => hFc _ h)
      generalize H1 = H at hP hS ⊢
      obtain rfl : r10 = p9.1 := hw
      refine lv_if_eq (tgt := 228) hx hb dX12_next_218 (by decide) (fun c11 => ?_) (fun c11 => ?_)
      ·
        replace hf := (if_pos c11).symm.trans hf
        refine lv_aload_n hx hb dX12_next_228 rfl (lv_at hl 1 rfl) ?_
        refine lv_iload_n hx hb dX12_next_229 rfl (lv_at hl 0 rfl) ?_
        obtain ⟨p12, hcp12, hf⟩ := hf_bind hf
        have hFc := r_free hD hS hA
        refine va_callv (va_runV (As := [.int p3.1]) (rest := []) ⟨hx, hb, hml, hown, hts⟩ (c_X12_readSign l dC dI _ Q N p9.2 p3.1 p12 hcp12) (cwV 1 hts hX12_next_X12_readSign_v323 rfl rfl rfl (by decide +kernel) ⟨Nat.le_of_ble_eq_true rfl, Nat.le_of_ble_eq_true rfl⟩) ⟨zPre.blind, va_recv hK hP (ci := 11) (q0 := 0) rfl rfl, zPre.go hZ hP hK hD⟩ rfl rfl hl.1 rfl (lv_room (Nat.le_of_ble_eq_true rfl)) dX12_next_230 ⟨Nat.le_of_ble_eq_true rfl, Nat.le_of_ble_eq_true rfl⟩) hS (fun q _ h => hFc q h) hFc (fun u9 t9 H1 locs ht hvm hw hB hz1 hk1 hS => ?_)
        obtain ⟨hP, hK1, hD1⟩ := hB
        rw [ht] at hP
        have hD := hD1.weaken (fun _ _ _ h => hFc _ h)
        generalize H1 = H at hP hS ⊢
        obtain rfl := Option.some.inj hf
        exact W.vret hx hb hr (fun t ht hW => ⟨⟨(), rfl, trivial, by rw [ht]; exact hP, va_K.moved hW.alike hK, hD⟩, hS.F ht⟩) hS.2.2 dX12_next_233
      ·
        replace hf := (if_neg c11).symm.trans hf
        refine lv_aload_n hx hb dX12_next_221 rfl (lv_at hl 1 rfl) ?_
        obtain ⟨p14, hcp14, hf⟩ := hf_bind hf
        have hFc := r_free hD hS hA
        refine va_callv (va_runV (As := []) (rest := []) ⟨hx, hb, hml, hown, hts⟩ (c_X12_readName l dC dI _ Q N p9.2 p14 hcp14) (cwV 0 hts hX12_next_X12_readName_v320 rfl rfl rfl (by decide +kernel) ⟨Nat.le_of_ble_eq_true rfl, Nat.le_of_ble_eq_true rfl⟩) ⟨zPre.blind, va_recv hK hP (ci := 11) (q0 := 0) rfl rfl, zPre.go hZ hP hK hD⟩ rfl rfl hl.1 rfl (lv_room (Nat.le_of_ble_eq_true rfl)) dX12_next_222 ⟨Nat.le_of_ble_eq_true rfl, Nat.le_of_ble_eq_true rfl⟩) hS (fun q _ h => hFc q h) hFc (fun u9 t9 H1 locs ht hvm hw hB hz1 hk1 hS => ?_)
        obtain ⟨hP, hK1, hD1⟩ := hB
        rw [ht] at hP
        have hD := hD1.weaken (fun _ _ _ h => hFc _ h)
        generalize H1 = H at hP hS ⊢
        refine lv_goto (tgt := 233) hx hb dX12_next_225 (by decide) ?_
        obtain rfl := Option.some.inj hf
        exact W.vret hx hb hr (fun t ht hW => ⟨⟨(), rfl, trivial, by rw [ht]; exact hP, va_K.moved hW.alike hK, hD⟩, hS.F ht⟩) hS.2.2 dX12_next_233
    ·
      replace hf := (if_neg c8).symm.trans hf
      refine lv_aload_n hx hb dX12_next_111 rfl (lv_at hl 1 rfl) ?_
      refine lv_iconst (v := 0) hx hb dX12_next_112 (by decide) ?_
      refine rP_14 hx hb hts i_X12_next_X12 hown hK hP hD hS (hts (.fieldLink RX12 314 "StatementRules2Model" "number" "I") k_X12_next_fieldLink_RX12_314_SRModel_number_I) dX12_next_113 (fun H locs hP hD hS => ?_)
      exact j_X12_next_116 l dC dI Q N R hx hb hr hml hown hts hlocks hZ hA hK N (RS.setI p6.2 14 0) _ _ _ hf hP hD hS (lv_sub hl [1] rfl)
  ·
    replace hf := (if_pos c5).symm.trans hf
    refine lv_aload_n hx hb dX12_next_96 rfl (lv_at hl 1 rfl) ?_
    refine lv_iconst (v := 0) hx hb dX12_next_97 (by decide) ?_
    refine rP_10 hx hb hts i_X12_next_X12 hown hK hP hD hS (hts (.fieldLink RX12 307 "StatementRules2Model" "tok" "I") k_X12_next_fieldLink_RX12_307_SRModel_tok_I) dX12_next_98 (fun H locs hP hD hS => ?_)
    refine lv_goto (tgt := 233) hx hb dX12_next_101 (by decide) ?_
    obtain rfl := Option.some.inj hf
    exact W.vret hx hb hr (fun t ht hW => ⟨⟨(), rfl, trivial, by rw [ht]; exact hP, va_K.moved hW.alike hK, hD⟩, hS.F ht⟩) hS.2.2 dX12_next_233
set_option maxHeartbeats 4000000 in
set_option maxRecDepth 100000 in
theorem j_X12_next_18 {p : Program} {e : Env} {s : State} {m : MethodId} {args : Array Value} {below : List Frame} {meth : Method} {c : Code} {A : Nat → Prop} (l : Launch) (dC : Nat → ClassId) (dI : Nat → Nat → Nat) (Q : RQ) (N : Nat) (R : RS) (hx : p.tables.exec = Jvm.exec) (hb : c.code = cX12_next) (hr : meth.sig.returnType = none) (hml : c.maxLocals = 2) (hown : s.vm.findClass RX12 = some m.cls) (hts : ∀ w ∈ wzX12_next, w.before args s = true) (hlocks : meth.locks = false) (hZ : zAMB s) (hA : ∀ q : Nat, s.heap.size ≤ q → A q) (hK : va_K (dC, dI) vwCl (rT Q) s) : ∀ (n9 : Nat), ∀ (σ : RS) (H : Heap) (locs : List Loc) (ls : Array Slot), f_X12_next_18 N n9 σ = some R → va_P (dC, dI) vwCl (rW Q σ) H → va_D A (rW Q σ) → va_S A s.heap H locs → lv_has ls 2 [(0, .ref Q.h0)] → W p l e ({ frames := 3, cells := 0, slots := 0, locals := 180 }) s m args below meth c H locs 0 0 (MQ below (va_Qv (fun (_ : Unit) => True) (fun (_ : Unit) (t : State) => zPost dC dI A (rW Q R) (rT Q) t) A) args s 0 0 A) (F0 m 18 ls []) := by
  intro n9
  induction n9 with
  | zero => intro σ  H locs ls hf; exact absurd hf (by intro h9; cases h9)
  | succ n9 ih =>
    intro σ  H locs ls hf hP hD hS hl
    replace hf : b_X12_next_18 N (f_X12_next_18 N n9) σ  = some R := hf
    unfold b_X12_next_18 at hf
    refine lv_aload_n hx hb dX12_next_18 rfl (lv_at hl 0 rfl) ?_
    refine rG_12 (v := (σ.i 12)) hx hb hts i_X12_next_X12 hown hK hP (hts (.fieldLink RX12 297 "StatementRules2Model" "to" "I") k_X12_next_fieldLink_RX12_297_SRModel_to_I) dX12_next_19 rfl ?_
    refine lv_aload_n hx hb dX12_next_22 rfl (lv_at hl 0 rfl) ?_
    refine rG_2 (v := (σ.i 2)) hx hb hts i_X12_next_X12 hown hK hP (hts (.fieldLink RX12 276 "StatementRules2Model" "taped" "I") k_X12_next_fieldLink_RX12_276_SRModel_taped_I) dX12_next_23 rfl ?_
    refine lv_icmp_ge (tgt := 68) hx hb dX12_next_26 (by decide) (fun c2 => ?_) (fun c2 => ?_)
    ·
      replace hf := (if_pos c2).symm.trans hf
      exact j_X12_next_68 l dC dI Q N R hx hb hr hml hown hts hlocks hZ hA hK σ _ _ _ hf hP hD hS (lv_sub hl [0] rfl)
    ·
      replace hf := (if_neg c2).symm.trans hf
      refine lv_aload_n hx hb dX12_next_29 rfl (lv_at hl 0 rfl) ?_
      refine lv_aload_n hx hb dX12_next_30 rfl (lv_at hl 0 rfl) ?_
      refine rG_12 (v := (σ.i 12)) hx hb hts i_X12_next_X12 hown hK hP (hts (.fieldLink RX12 297 "StatementRules2Model" "to" "I") k_X12_next_fieldLink_RX12_297_SRModel_to_I) dX12_next_31 rfl ?_
      obtain ⟨p25, hcp25, hf⟩ := hf_bind hf
      have hFc := r_free hD hS hA
      refine va_calli (va_runV (As := [.int (σ.i 12)]) (rest := []) ⟨hx, hb, hml, hown, hts⟩ (c_X12_at l dC dI _ Q N σ (σ.i 12) p25 hcp25) (cwV 1 hts hX12_next_X12_at_v300 rfl rfl rfl (by decide +kernel) ⟨Nat.le_of_ble_eq_true rfl, Nat.le_of_ble_eq_true rfl⟩) ⟨zPre.blind, va_recv hK hP (ci := 11) (q0 := 0) rfl rfl, zPre.go hZ hP hK hD⟩ rfl rfl hl.1 rfl (lv_room (Nat.le_of_ble_eq_true rfl)) dX12_next_34 ⟨Nat.le_of_ble_eq_true rfl, Nat.le_of_ble_eq_true rfl⟩) hS (fun q _ h => hFc q h) hFc (fun r26 u9 t9 H1 locs ht hvm hw hB hz1 hk1 hS => ?_)
      obtain ⟨hP, hK1, hD1⟩ := hB
      rw [ht] at hP
      have hD := hD1.weaken (fun _ _ _ h => hFc _ h)
      generalize H1 = H at hP hS ⊢
      obtain rfl : r26 = p25.1 := hw
      refine lv_bipush (v := 32) hx hb dX12_next_37 (by decide) ?_
      refine lv_icmp_eq (tgt := 55) hx hb dX12_next_39 (by decide) (fun c27 => ?_) (fun c27 => ?_)
      ·
        replace hf := (if_pos c27).symm.trans hf
        refine lv_aload_n hx hb dX12_next_55 rfl (lv_at hl 0 rfl) ?_
        refine lv_dup hx hb dX12_next_56 rfl ?_
        refine rG_12 (v := (p25.2.i 12)) hx hb hts i_X12_next_X12 hown hK hP (hts (.fieldLink RX12 297 "StatementRules2Model" "to" "I") k_X12_next_fieldLink_RX12_297_SRModel_to_I) dX12_next_57 rfl ?_
        refine lv_iconst (v := 1) hx hb dX12_next_60 (by decide) ?_
        refine lv_iadd hx hb dX12_next_61 ?_
        refine rP_12 hx hb hts i_X12_next_X12 hown hK hP hD hS (hts (.fieldLink RX12 297 "StatementRules2Model" "to" "I") k_X12_next_fieldLink_RX12_297_SRModel_to_I) dX12_next_62 (fun H locs hP hD hS => ?_)
        refine lv_goto (tgt := 18) hx hb dX12_next_65 (by decide) ?_
        exact ih (RS.setI p25.2 12 ((p25.2.i 12) + 1)) _ _ _ hf hP hD hS (lv_sub hl [0] rfl)
      ·
        replace hf := (if_neg c27).symm.trans hf
        refine lv_aload_n hx hb dX12_next_42 rfl (lv_at hl 0 rfl) ?_
        refine lv_aload_n hx hb dX12_next_43 rfl (lv_at hl 0 rfl) ?_
        refine rG_12 (v := (p25.2.i 12)) hx hb hts i_X12_next_X12 hown hK hP (hts (.fieldLink RX12 297 "StatementRules2Model" "to" "I") k_X12_next_fieldLink_RX12_297_SRModel_to_I) dX12_next_44 rfl ?_
        obtain ⟨p28, hcp28, hf⟩ := hf_bind hf
        have hFc := r_free hD hS hA
        refine va_calli (va_runV (As := [.int (p25.2.i 12)]) (rest := []) ⟨hx, hb, hml, hown, hts⟩ (c_X12_at l dC dI _ Q N p25.2 (p25.2.i 12) p28 hcp28) (cwV 1 hts hX12_next_X12_at_v300 rfl rfl rfl (by decide +kernel) ⟨Nat.le_of_ble_eq_true rfl, Nat.le_of_ble_eq_true rfl⟩) ⟨zPre.blind, va_recv hK hP (ci := 11) (q0 := 0) rfl rfl, zPre.go hZ hP hK hD⟩ rfl rfl hl.1 rfl (lv_room (Nat.le_of_ble_eq_true rfl)) dX12_next_47 ⟨Nat.le_of_ble_eq_true rfl, Nat.le_of_ble_eq_true rfl⟩) hS (fun q _ h => hFc q h) hFc (fun r29 u9 t9 H1 locs ht hvm hw hB hz1 hk1 hS => ?_)
        obtain ⟨hP, hK1, hD1⟩ := hB
        rw [ht] at hP
        have hD := hD1.weaken (fun _ _ _ h => hFc _ h)
        generalize H1 = H at hP hS ⊢
        obtain rfl : r29 = p28.1 := hw
        refine lv_bipush (v := 10) hx hb dX12_next_50 (by decide) ?_
        refine lv_icmp_ne (tgt := 68) hx hb dX12_next_52 (by decide) (fun c30 => ?_) (fun c30 => ?_)
        ·
          replace hf := (if_neg c30).symm.trans hf
          exact j_X12_next_68 l dC dI Q N R hx hb hr hml hown hts hlocks hZ hA hK p28.2 _ _ _ hf hP hD hS (lv_sub hl [0] rfl)
        ·
          replace hf := (if_pos c30).symm.trans hf
          refine lv_aload_n hx hb dX12_next_55 rfl (lv_at hl 0 rfl) ?_
          refine lv_dup hx hb dX12_next_56 rfl ?_
          refine rG_12 (v := (p28.2.i 12)) hx hb hts i_X12_next_X12 hown hK hP (hts (.fieldLink RX12 297 "StatementRules2Model" "to" "I") k_X12_next_fieldLink_RX12_297_SRModel_to_I) dX12_next_57 rfl ?_
          refine lv_iconst (v := 1) hx hb dX12_next_60 (by decide) ?_
          refine lv_iadd hx hb dX12_next_61 ?_
          refine rP_12 hx hb hts i_X12_next_X12 hown hK hP hD hS (hts (.fieldLink RX12 297 "StatementRules2Model" "to" "I") k_X12_next_fieldLink_RX12_297_SRModel_to_I) dX12_next_62 (fun H locs hP hD hS => ?_)
          refine lv_goto (tgt := 18) hx hb dX12_next_65 (by decide) ?_
          exact ih (RS.setI p28.2 12 ((p28.2.i 12) + 1)) _ _ _ hf hP hD hS (lv_sub hl [0] rfl)
set_option maxHeartbeats 4000000 in
set_option maxRecDepth 100000 in
theorem c_X12_next (l : Launch) (dC : Nat → ClassId) (dI : Nat → Nat → Nat) (sz : Nat) (Q : RQ) (N : Nat) (σ : RS) (R : RS) (hf : f_X12_next N σ = some R) : Met l yX12_next wzX12_next ({ frames := 3, cells := 0, slots := 0, locals := 180 }) (va_Pc [.ref Q.h0] (zPre dC dI sz (rW Q σ) (rT Q))) (va_Qv (fun (_ : Unit) => True) (fun (_ : Unit) (t : State) => zPost dC dI (va_A (rW Q σ) sz) (rW Q R) (rT Q) t) (va_A (rW Q σ) sz)) 0 0 (va_A (rW Q σ) sz) := by
  refine Met.ofW (cc := cX12_next) (maxL := 2) (ret := none) (by decide) rfl ?_
  intro p e s m args below meth c s₁ B hml hv
  obtain ⟨rfl, hsz, hZ, hP, hK, hD0⟩ := hv
  have hx := B.exec
  have hb := B.bytes
  have hr := B.returns
  have hts := atoms_spec (ws := wzX12_next) B.pre
  have hown : s.vm.findClass RX12 = some m.cls := findClass_of_methodNamed B.named
  have hlocks := B.notSynchronized
  subst hsz
  have hD := hD0.self (sz := s.heap.size)
  generalize hAe : va_A (rW Q σ) s.heap.size = A at hD ⊢
  have hA : ∀ q : Nat, s.heap.size ≤ q → A q := fun q h => by rw [← hAe]; exact Or.inr h
  have hS : va_S A s.heap s.heap [] := va_S.rf
  have hl := lv_entry ([.ref Q.h0]) (n := 2) (Nat.le_of_ble_eq_true rfl)
  rw [lg_entry_eq]
  generalize (lg_sl ([.ref Q.h0]) ++ List.replicate (2 - (lg_sl ([.ref Q.h0])).length) Slot.unset).toArray = ls at hl ⊢
  have hl : lv_has ls 2 [(0, .ref Q.h0)] := hl
  unfold f_X12_next at hf
  refine lv_aload_n hx hb dX12_next_0 rfl (lv_at hl 0 rfl) ?_
  refine rG_15 (v := (σ.i 15)) hx hb hts i_X12_next_X12 hown hK hP (hts (.fieldLink RX12 291 "StatementRules2Model" "fault" "I") k_X12_next_fieldLink_RX12_291_SRModel_fault_I) dX12_next_1 rfl ?_
  refine lv_if_eq (tgt := 8) hx hb dX12_next_4 (by decide) (fun c1 => ?_) (fun c1 => ?_)
  ·
    replace hf := (if_pos c1).symm.trans hf
    refine lv_aload_n hx hb dX12_next_8 rfl (lv_at hl 0 rfl) ?_
    refine lv_dup hx hb dX12_next_9 rfl ?_
    refine rG_17 (v := (σ.i 17)) hx hb hts i_X12_next_X12 hown hK hP (hts (.fieldLink RX12 294 "StatementRules2Model" "tokens" "I") k_X12_next_fieldLink_RX12_294_SRModel_tokens_I) dX12_next_10 rfl ?_
    refine lv_iconst (v := 1) hx hb dX12_next_13 (by decide) ?_
    refine lv_iadd hx hb dX12_next_14 ?_
    refine rP_17 hx hb hts i_X12_next_X12 hown hK hP hD hS (hts (.fieldLink RX12 294 "StatementRules2Model" "tokens" "I") k_X12_next_fieldLink_RX12_294_SRModel_tokens_I) dX12_next_15 (fun H locs hP hD hS => ?_)
    exact j_X12_next_18 l dC dI Q N R hx hb hr hml hown hts hlocks hZ hA hK N (RS.setI σ 17 ((σ.i 17) + 1)) _ _ _ hf hP hD hS (lv_sub hl [0] rfl)
  ·
    replace hf := (if_neg c1).symm.trans hf
    obtain rfl := Option.some.inj hf
    exact W.vret hx hb hr (fun t ht hW => ⟨⟨(), rfl, trivial, by rw [ht]; exact hP, va_K.moved hW.alike hK, hD⟩, hS.F ht⟩) hS.2.2 dX12_next_7
theorem k_X12_fail_fieldLink_RX12_291_SRModel_fault_I : Cond.fieldLink RX12 291 "StatementRules2Model" "fault" "I" ∈ wzX12_fail := List.mem_cons_of_mem _ (List.mem_append_left _ (List.mem_of_getElem? (i := 0) rfl))
theorem i_X12_fail_X12 : ∀ w ∈ wsX120, w ∈ wzX12_fail := fun _ h => List.mem_cons_of_mem _ (List.mem_append_right _ (List.mem_append_left _ (h)))
theorem k_X12_fail_fieldLink_RX12_331_SRModel_faultAt_I : Cond.fieldLink RX12 331 "StatementRules2Model" "faultAt" "I" ∈ wzX12_fail := List.mem_cons_of_mem _ (List.mem_append_left _ (List.mem_of_getElem? (i := 1) rfl))
set_option maxHeartbeats 4000000 in
set_option maxRecDepth 100000 in
theorem c_X12_fail (l : Launch) (dC : Nat → ClassId) (dI : Nat → Nat → Nat) (sz : Nat) (Q : RQ) (N : Nat) (σ : RS) (x1 : Int32) (x2 : Int32) (R : RS) (hf : f_X12_fail N σ x1 x2 = some R) : Met l yX12_fail wzX12_fail ({ frames := 1, cells := 0, slots := 0, locals := 60 }) (va_Pc [.ref Q.h0, .int x1, .int x2] (zPre dC dI sz (rW Q σ) (rT Q))) (va_Qv (fun (_ : Unit) => True) (fun (_ : Unit) (t : State) => zPost dC dI (va_A (rW Q σ) sz) (rW Q R) (rT Q) t) (va_A (rW Q σ) sz)) 0 0 (va_A (rW Q σ) sz) := by
  refine Met.ofW (cc := cX12_fail) (maxL := 3) (ret := none) (by decide) rfl ?_
  intro p e s m args below meth c s₁ B hml hv
  obtain ⟨rfl, hsz, hZ, hP, hK, hD0⟩ := hv
  have hx := B.exec
  have hb := B.bytes
  have hr := B.returns
  have hts := atoms_spec (ws := wzX12_fail) B.pre
  have hown : s.vm.findClass RX12 = some m.cls := findClass_of_methodNamed B.named
  have hlocks := B.notSynchronized
  subst hsz
  have hD := hD0.self (sz := s.heap.size)
  generalize hAe : va_A (rW Q σ) s.heap.size = A at hD ⊢
  have hA : ∀ q : Nat, s.heap.size ≤ q → A q := fun q h => by rw [← hAe]; exact Or.inr h
  have hS : va_S A s.heap s.heap [] := va_S.rf
  have hl := lv_entry ([.ref Q.h0, .int x1, .int x2]) (n := 3) (Nat.le_of_ble_eq_true rfl)
  rw [lg_entry_eq]
  generalize (lg_sl ([.ref Q.h0, .int x1, .int x2]) ++ List.replicate (3 - (lg_sl ([.ref Q.h0, .int x1, .int x2])).length) Slot.unset).toArray = ls at hl ⊢
  have hl : lv_has ls 3 [(0, .ref Q.h0), (1, .int x1), (2, .int x2)] := hl
  unfold f_X12_fail at hf
  refine lv_aload_n hx hb dX12_fail_0 rfl (lv_at hl 0 rfl) ?_
  refine rG_15 (v := (σ.i 15)) hx hb hts i_X12_fail_X12 hown hK hP (hts (.fieldLink RX12 291 "StatementRules2Model" "fault" "I") k_X12_fail_fieldLink_RX12_291_SRModel_fault_I) dX12_fail_1 rfl ?_
  refine lv_if_ne (tgt := 17) hx hb dX12_fail_4 (by decide) (fun c1 => ?_) (fun c1 => ?_)
  ·
    replace hf := (if_neg c1).symm.trans hf
    obtain rfl := Option.some.inj hf
    exact W.vret hx hb hr (fun t ht hW => ⟨⟨(), rfl, trivial, by rw [ht]; exact hP, va_K.moved hW.alike hK, hD⟩, hS.F ht⟩) hS.2.2 dX12_fail_17
  ·
    replace hf := (if_pos c1).symm.trans hf
    refine lv_aload_n hx hb dX12_fail_7 rfl (lv_at hl 0 rfl) ?_
    refine lv_iload_n hx hb dX12_fail_8 rfl (lv_at hl 1 rfl) ?_
    refine rP_15 hx hb hts i_X12_fail_X12 hown hK hP hD hS (hts (.fieldLink RX12 291 "StatementRules2Model" "fault" "I") k_X12_fail_fieldLink_RX12_291_SRModel_fault_I) dX12_fail_9 (fun H locs hP hD hS => ?_)
    refine lv_aload_n hx hb dX12_fail_12 rfl (lv_at hl 0 rfl) ?_
    refine lv_iload_n hx hb dX12_fail_13 rfl (lv_at hl 2 rfl) ?_
    refine rP_16 hx hb hts i_X12_fail_X12 hown hK hP hD hS (hts (.fieldLink RX12 331 "StatementRules2Model" "faultAt" "I") k_X12_fail_fieldLink_RX12_331_SRModel_faultAt_I) dX12_fail_14 (fun H locs hP hD hS => ?_)
    obtain rfl := Option.some.inj hf
    exact W.vret hx hb hr (fun t ht hW => ⟨⟨(), rfl, trivial, by rw [ht]; exact hP, va_K.moved hW.alike hK, hD⟩, hS.F ht⟩) hS.2.2 dX12_fail_17
theorem k_X12_note_fieldLink_RX12_291_SRModel_fault_I : Cond.fieldLink RX12 291 "StatementRules2Model" "fault" "I" ∈ wzX12_note := List.mem_cons_of_mem _ (List.mem_append_left _ (List.mem_of_getElem? (i := 0) rfl))
theorem i_X12_note_X12 : ∀ w ∈ wsX120, w ∈ wzX12_note := fun _ h => List.mem_cons_of_mem _ (List.mem_append_right _ (List.mem_append_left _ (h)))
theorem k_X12_note_fieldLink_RX12_334_SRModel_late_I : Cond.fieldLink RX12 334 "StatementRules2Model" "late" "I" ∈ wzX12_note := List.mem_cons_of_mem _ (List.mem_append_left _ (List.mem_of_getElem? (i := 1) rfl))
set_option maxHeartbeats 4000000 in
set_option maxRecDepth 100000 in
theorem c_X12_note (l : Launch) (dC : Nat → ClassId) (dI : Nat → Nat → Nat) (sz : Nat) (Q : RQ) (N : Nat) (σ : RS) (x1 : Int32) (R : RS) (hf : f_X12_note N σ x1 = some R) : Met l yX12_note wzX12_note ({ frames := 1, cells := 0, slots := 0, locals := 60 }) (va_Pc [.ref Q.h0, .int x1] (zPre dC dI sz (rW Q σ) (rT Q))) (va_Qv (fun (_ : Unit) => True) (fun (_ : Unit) (t : State) => zPost dC dI (va_A (rW Q σ) sz) (rW Q R) (rT Q) t) (va_A (rW Q σ) sz)) 0 0 (va_A (rW Q σ) sz) := by
  refine Met.ofW (cc := cX12_note) (maxL := 2) (ret := none) (by decide) rfl ?_
  intro p e s m args below meth c s₁ B hml hv
  obtain ⟨rfl, hsz, hZ, hP, hK, hD0⟩ := hv
  have hx := B.exec
  have hb := B.bytes
  have hr := B.returns
  have hts := atoms_spec (ws := wzX12_note) B.pre
  have hown : s.vm.findClass RX12 = some m.cls := findClass_of_methodNamed B.named
  have hlocks := B.notSynchronized
  subst hsz
  have hD := hD0.self (sz := s.heap.size)
  generalize hAe : va_A (rW Q σ) s.heap.size = A at hD ⊢
  have hA : ∀ q : Nat, s.heap.size ≤ q → A q := fun q h => by rw [← hAe]; exact Or.inr h
  have hS : va_S A s.heap s.heap [] := va_S.rf
  have hl := lv_entry ([.ref Q.h0, .int x1]) (n := 2) (Nat.le_of_ble_eq_true rfl)
  rw [lg_entry_eq]
  generalize (lg_sl ([.ref Q.h0, .int x1]) ++ List.replicate (2 - (lg_sl ([.ref Q.h0, .int x1])).length) Slot.unset).toArray = ls at hl ⊢
  have hl : lv_has ls 2 [(0, .ref Q.h0), (1, .int x1)] := hl
  unfold f_X12_note at hf
  refine lv_aload_n hx hb dX12_note_0 rfl (lv_at hl 0 rfl) ?_
  refine rG_15 (v := (σ.i 15)) hx hb hts i_X12_note_X12 hown hK hP (hts (.fieldLink RX12 291 "StatementRules2Model" "fault" "I") k_X12_note_fieldLink_RX12_291_SRModel_fault_I) dX12_note_1 rfl ?_
  refine lv_if_ne (tgt := 19) hx hb dX12_note_4 (by decide) (fun c1 => ?_) (fun c1 => ?_)
  ·
    replace hf := (if_neg c1).symm.trans hf
    obtain rfl := Option.some.inj hf
    exact W.vret hx hb hr (fun t ht hW => ⟨⟨(), rfl, trivial, by rw [ht]; exact hP, va_K.moved hW.alike hK, hD⟩, hS.F ht⟩) hS.2.2 dX12_note_19
  ·
    replace hf := (if_pos c1).symm.trans hf
    refine lv_aload_n hx hb dX12_note_7 rfl (lv_at hl 0 rfl) ?_
    refine rG_18 (v := (σ.i 18)) hx hb hts i_X12_note_X12 hown hK hP (hts (.fieldLink RX12 334 "StatementRules2Model" "late" "I") k_X12_note_fieldLink_RX12_334_SRModel_late_I) dX12_note_8 rfl ?_
    refine lv_if_ge (tgt := 19) hx hb dX12_note_11 (by decide) (fun c2 => ?_) (fun c2 => ?_)
    ·
      replace hf := (if_pos c2).symm.trans hf
      obtain rfl := Option.some.inj hf
      exact W.vret hx hb hr (fun t ht hW => ⟨⟨(), rfl, trivial, by rw [ht]; exact hP, va_K.moved hW.alike hK, hD⟩, hS.F ht⟩) hS.2.2 dX12_note_19
    ·
      replace hf := (if_neg c2).symm.trans hf
      refine lv_aload_n hx hb dX12_note_14 rfl (lv_at hl 0 rfl) ?_
      refine lv_iload_n hx hb dX12_note_15 rfl (lv_at hl 1 rfl) ?_
      refine rP_18 hx hb hts i_X12_note_X12 hown hK hP hD hS (hts (.fieldLink RX12 334 "StatementRules2Model" "late" "I") k_X12_note_fieldLink_RX12_334_SRModel_late_I) dX12_note_16 (fun H locs hP hD hS => ?_)
      obtain rfl := Option.some.inj hf
      exact W.vret hx hb hr (fun t ht hW => ⟨⟨(), rfl, trivial, by rw [ht]; exact hP, va_K.moved hW.alike hK, hD⟩, hS.F ht⟩) hS.2.2 dX12_note_19
theorem k_X12_can_fieldLink_RX12_291_SRModel_fault_I : Cond.fieldLink RX12 291 "StatementRules2Model" "fault" "I" ∈ wzX12_can := List.mem_cons_of_mem _ (List.mem_append_left _ (List.mem_of_getElem? (i := 0) rfl))
theorem i_X12_can_X12 : ∀ w ∈ wsX120, w ∈ wzX12_can := fun _ h => List.mem_cons_of_mem _ (List.mem_append_right _ (List.mem_append_left _ (h)))
theorem k_X12_can_fieldLink_RX12_307_SRModel_tok_I : Cond.fieldLink RX12 307 "StatementRules2Model" "tok" "I" ∈ wzX12_can := List.mem_cons_of_mem _ (List.mem_append_left _ (List.mem_of_getElem? (i := 1) rfl))
theorem k_X12_can_fieldLink_RX12_304_SRModel_from_I : Cond.fieldLink RX12 304 "StatementRules2Model" "from" "I" ∈ wzX12_can := List.mem_cons_of_mem _ (List.mem_append_left _ (List.mem_of_getElem? (i := 2) rfl))
set_option maxHeartbeats 4000000 in
set_option maxRecDepth 100000 in
theorem j_X12_can_42 {p : Program} {e : Env} {s : State} {m : MethodId} {args : Array Value} {below : List Frame} {meth : Method} {c : Code} {A : Nat → Prop} (l : Launch) (dC : Nat → ClassId) (dI : Nat → Nat → Nat) (Q : RQ) (N : Nat) (R : Int32 × RS) (hx : p.tables.exec = Jvm.exec) (hb : c.code = cX12_can) (hr : meth.sig.returnType = (some .boolean)) (hml : c.maxLocals = 2) (hown : s.vm.findClass RX12 = some m.cls) (hts : ∀ w ∈ wzX12_can, w.before args s = true) (hlocks : meth.locks = false) (hZ : zAMB s) (hA : ∀ q : Nat, s.heap.size ≤ q → A q) (hK : va_K (dC, dI) vwCl (rT Q) s) : ∀ (σ : RS) (H : Heap) (locs : List Loc) (ls : Array Slot), f_X12_can_42 N σ = some R → va_P (dC, dI) vwCl (rW Q σ) H → va_D A (rW Q σ) → va_S A s.heap H locs → lv_has ls 2 [(0, .ref Q.h0)] → W p l e ({ frames := 2, cells := 0, slots := 0, locals := 120 }) s m args below meth c H locs 0 0 (MQ below (va_Qi (fun (r : Int32) (_ : Unit) => r = R.1) (fun (_ : Unit) (t : State) => zPost dC dI A (rW Q R.2) (rT Q) t) A) args s 0 0 A) (F0 m 42 ls []) := by
  intro σ  H locs ls hf hP hD hS hl
  unfold f_X12_can_42 at hf
  refine lv_aload_n hx hb dX12_can_42 rfl (lv_at hl 0 rfl) ?_
  refine rG_15 (v := (σ.i 15)) hx hb hts i_X12_can_X12 hown hK hP (hts (.fieldLink RX12 291 "StatementRules2Model" "fault" "I") k_X12_can_fieldLink_RX12_291_SRModel_fault_I) dX12_can_43 rfl ?_
  refine lv_if_ne (tgt := 53) hx hb dX12_can_46 (by decide) (fun c2 => ?_) (fun c2 => ?_)
  ·
    replace hf := (if_neg c2).symm.trans hf
    refine lv_iconst (v := 0) hx hb dX12_can_53 (by decide) ?_
    obtain rfl := Option.some.inj hf
    exact W.zret (v := 0) hx hb hr (rfl) (fun t ht hW => ⟨⟨0, (), rfl, rfl, by rw [ht]; exact hP, va_K.moved hW.alike hK, hD⟩, hS.F ht⟩) hS.2.2 dX12_can_54
  ·
    replace hf := (if_pos c2).symm.trans hf
    refine lv_iconst (v := 1) hx hb dX12_can_49 (by decide) ?_
    refine lv_goto (tgt := 54) hx hb dX12_can_50 (by decide) ?_
    obtain rfl := Option.some.inj hf
    exact W.zret (v := 1) hx hb hr (rfl) (fun t ht hW => ⟨⟨1, (), rfl, rfl, by rw [ht]; exact hP, va_K.moved hW.alike hK, hD⟩, hS.F ht⟩) hS.2.2 dX12_can_54
set_option maxHeartbeats 4000000 in
set_option maxRecDepth 100000 in
theorem j_X12_can_20 {p : Program} {e : Env} {s : State} {m : MethodId} {args : Array Value} {below : List Frame} {meth : Method} {c : Code} {A : Nat → Prop} (l : Launch) (dC : Nat → ClassId) (dI : Nat → Nat → Nat) (Q : RQ) (N : Nat) (R : Int32 × RS) (hx : p.tables.exec = Jvm.exec) (hb : c.code = cX12_can) (hr : meth.sig.returnType = (some .boolean)) (hml : c.maxLocals = 2) (hown : s.vm.findClass RX12 = some m.cls) (hts : ∀ w ∈ wzX12_can, w.before args s = true) (hlocks : meth.locks = false) (hZ : zAMB s) (hA : ∀ q : Nat, s.heap.size ≤ q → A q) (hK : va_K (dC, dI) vwCl (rT Q) s) : ∀ (σ : RS) (H : Heap) (locs : List Loc) (ls : Array Slot), f_X12_can_20 N σ = some R → va_P (dC, dI) vwCl (rW Q σ) H → va_D A (rW Q σ) → va_S A s.heap H locs → lv_has ls 2 [(0, .ref Q.h0)] → W p l e ({ frames := 2, cells := 0, slots := 0, locals := 120 }) s m args below meth c H locs 0 0 (MQ below (va_Qi (fun (r : Int32) (_ : Unit) => r = R.1) (fun (_ : Unit) (t : State) => zPost dC dI A (rW Q R.2) (rT Q) t) A) args s 0 0 A) (F0 m 20 ls []) := by
  intro σ  H locs ls hf hP hD hS hl
  unfold f_X12_can_20 at hf
  refine lv_aload_n hx hb dX12_can_20 rfl (lv_at hl 0 rfl) ?_
  refine lv_aload_n hx hb dX12_can_21 rfl (lv_at hl 0 rfl) ?_
  refine rG_10 (v := (σ.i 10)) hx hb hts i_X12_can_X12 hown hK hP (hts (.fieldLink RX12 307 "StatementRules2Model" "tok" "I") k_X12_can_fieldLink_RX12_307_SRModel_tok_I) dX12_can_22 rfl ?_
  refine lv_bipush (v := 6) hx hb dX12_can_25 (by decide) ?_
  refine lv_icmp_ne (tgt := 34) hx hb dX12_can_27 (by decide) (fun c4 => ?_) (fun c4 => ?_)
  ·
    replace hf := (if_neg c4).symm.trans hf
    refine lv_iconst (v := 2) hx hb dX12_can_34 (by decide) ?_
    refine lv_aload_n hx hb dX12_can_35 rfl (lv_at hl 0 rfl) ?_
    refine rG_11 (v := (σ.i 11)) hx hb hts i_X12_can_X12 hown hK hP (hts (.fieldLink RX12 304 "StatementRules2Model" "from" "I") k_X12_can_fieldLink_RX12_304_SRModel_from_I) dX12_can_36 rfl ?_
    obtain ⟨p5, hcp5, hf⟩ := hf_bind hf
    have hFc := r_free hD hS hA
    refine va_callv (va_runV (As := [.int 2, .int (σ.i 11)]) (rest := []) ⟨hx, hb, hml, hown, hts⟩ (c_X12_fail l dC dI _ Q N σ 2 (σ.i 11) p5 hcp5) (cwV 2 hts hX12_can_X12_fail_v337 rfl rfl rfl (by decide +kernel) ⟨Nat.le_of_ble_eq_true rfl, Nat.le_of_ble_eq_true rfl⟩) ⟨zPre.blind, va_recv hK hP (ci := 11) (q0 := 0) rfl rfl, zPre.go hZ hP hK hD⟩ rfl rfl hl.1 rfl (lv_room (Nat.le_of_ble_eq_true rfl)) dX12_can_39 ⟨Nat.le_of_ble_eq_true rfl, Nat.le_of_ble_eq_true rfl⟩) hS (fun q _ h => hFc q h) hFc (fun u9 t9 H1 locs ht hvm hw hB hz1 hk1 hS => ?_)
    obtain ⟨hP, hK1, hD1⟩ := hB
    rw [ht] at hP
    have hD := hD1.weaken (fun _ _ _ h => hFc _ h)
    generalize H1 = H at hP hS ⊢
    exact j_X12_can_42 l dC dI Q N R hx hb hr hml hown hts hlocks hZ hA hK p5 _ _ _ hf hP hD hS (lv_sub hl [0] rfl)
  ·
    replace hf := (if_pos c4).symm.trans hf
    refine lv_iconst (v := 1) hx hb dX12_can_30 (by decide) ?_
    refine lv_goto (tgt := 35) hx hb dX12_can_31 (by decide) ?_
    refine lv_aload_n hx hb dX12_can_35 rfl (lv_at hl 0 rfl) ?_
    refine rG_11 (v := (σ.i 11)) hx hb hts i_X12_can_X12 hown hK hP (hts (.fieldLink RX12 304 "StatementRules2Model" "from" "I") k_X12_can_fieldLink_RX12_304_SRModel_from_I) dX12_can_36 rfl ?_
    obtain ⟨p7, hcp7, hf⟩ := hf_bind hf
    have hFc := r_free hD hS hA
    refine va_callv (va_runV (As := [.int 1, .int (σ.i 11)]) (rest := []) ⟨hx, hb, hml, hown, hts⟩ (c_X12_fail l dC dI _ Q N σ 1 (σ.i 11) p7 hcp7) (cwV 2 hts hX12_can_X12_fail_v337 rfl rfl rfl (by decide +kernel) ⟨Nat.le_of_ble_eq_true rfl, Nat.le_of_ble_eq_true rfl⟩) ⟨zPre.blind, va_recv hK hP (ci := 11) (q0 := 0) rfl rfl, zPre.go hZ hP hK hD⟩ rfl rfl hl.1 rfl (lv_room (Nat.le_of_ble_eq_true rfl)) dX12_can_39 ⟨Nat.le_of_ble_eq_true rfl, Nat.le_of_ble_eq_true rfl⟩) hS (fun q _ h => hFc q h) hFc (fun u9 t9 H1 locs ht hvm hw hB hz1 hk1 hS => ?_)
    obtain ⟨hP, hK1, hD1⟩ := hB
    rw [ht] at hP
    have hD := hD1.weaken (fun _ _ _ h => hFc _ h)
    generalize H1 = H at hP hS ⊢
    exact j_X12_can_42 l dC dI Q N R hx hb hr hml hown hts hlocks hZ hA hK p7 _ _ _ hf hP hD hS (lv_sub hl [0] rfl)
set_option maxHeartbeats 4000000 in
set_option maxRecDepth 100000 in
theorem c_X12_can (l : Launch) (dC : Nat → ClassId) (dI : Nat → Nat → Nat) (sz : Nat) (Q : RQ) (N : Nat) (σ : RS) (x1 : Int32) (R : Int32 × RS) (hf : f_X12_can N σ x1 = some R) : Met l yX12_can wzX12_can ({ frames := 2, cells := 0, slots := 0, locals := 120 }) (va_Pc [.ref Q.h0, .int x1] (zPre dC dI sz (rW Q σ) (rT Q))) (va_Qi (fun (r : Int32) (_ : Unit) => r = R.1) (fun (_ : Unit) (t : State) => zPost dC dI (va_A (rW Q σ) sz) (rW Q R.2) (rT Q) t) (va_A (rW Q σ) sz)) 0 0 (va_A (rW Q σ) sz) := by
  refine Met.ofW (cc := cX12_can) (maxL := 2) (ret := (some .boolean)) (by decide) rfl ?_
  intro p e s m args below meth c s₁ B hml hv
  obtain ⟨rfl, hsz, hZ, hP, hK, hD0⟩ := hv
  have hx := B.exec
  have hb := B.bytes
  have hr := B.returns
  have hts := atoms_spec (ws := wzX12_can) B.pre
  have hown : s.vm.findClass RX12 = some m.cls := findClass_of_methodNamed B.named
  have hlocks := B.notSynchronized
  subst hsz
  have hD := hD0.self (sz := s.heap.size)
  generalize hAe : va_A (rW Q σ) s.heap.size = A at hD ⊢
  have hA : ∀ q : Nat, s.heap.size ≤ q → A q := fun q h => by rw [← hAe]; exact Or.inr h
  have hS : va_S A s.heap s.heap [] := va_S.rf
  have hl := lv_entry ([.ref Q.h0, .int x1]) (n := 2) (Nat.le_of_ble_eq_true rfl)
  rw [lg_entry_eq]
  generalize (lg_sl ([.ref Q.h0, .int x1]) ++ List.replicate (2 - (lg_sl ([.ref Q.h0, .int x1])).length) Slot.unset).toArray = ls at hl ⊢
  have hl : lv_has ls 2 [(0, .ref Q.h0), (1, .int x1)] := hl
  unfold f_X12_can at hf
  refine lv_aload_n hx hb dX12_can_0 rfl (lv_at hl 0 rfl) ?_
  refine rG_15 (v := (σ.i 15)) hx hb hts i_X12_can_X12 hown hK hP (hts (.fieldLink RX12 291 "StatementRules2Model" "fault" "I") k_X12_can_fieldLink_RX12_291_SRModel_fault_I) dX12_can_1 rfl ?_
  refine lv_if_ne (tgt := 42) hx hb dX12_can_4 (by decide) (fun c1 => ?_) (fun c1 => ?_)
  ·
    replace hf := (if_neg c1).symm.trans hf
    exact j_X12_can_42 l dC dI Q N R hx hb hr hml hown hts hlocks hZ hA hK σ _ _ _ hf hP hD hS (lv_sub hl [0] rfl)
  ·
    replace hf := (if_pos c1).symm.trans hf
    refine lv_iload_n hx hb dX12_can_7 rfl (lv_at hl 1 rfl) ?_
    refine lv_if_eq (tgt := 20) hx hb dX12_can_8 (by decide) (fun c3 => ?_) (fun c3 => ?_)
    ·
      replace hf := (if_pos c3).symm.trans hf
      exact j_X12_can_20 l dC dI Q N R hx hb hr hml hown hts hlocks hZ hA hK σ _ _ _ hf hP hD hS (lv_sub hl [0] rfl)
    ·
      replace hf := (if_neg c3).symm.trans hf
      refine lv_aload_n hx hb dX12_can_11 rfl (lv_at hl 0 rfl) ?_
      refine rG_10 (v := (σ.i 10)) hx hb hts i_X12_can_X12 hown hK hP (hts (.fieldLink RX12 307 "StatementRules2Model" "tok" "I") k_X12_can_fieldLink_RX12_307_SRModel_tok_I) dX12_can_12 rfl ?_
      refine lv_bipush (v := 6) hx hb dX12_can_15 (by decide) ?_
      refine lv_icmp_ne (tgt := 42) hx hb dX12_can_17 (by decide) (fun c9 => ?_) (fun c9 => ?_)
      ·
        replace hf := (if_neg c9).symm.trans hf
        exact j_X12_can_42 l dC dI Q N R hx hb hr hml hown hts hlocks hZ hA hK σ _ _ _ hf hP hD hS (lv_sub hl [0] rfl)
      ·
        replace hf := (if_pos c9).symm.trans hf
        exact j_X12_can_20 l dC dI Q N R hx hb hr hml hown hts hlocks hZ hA hK σ _ _ _ hf hP hD hS (lv_sub hl [0] rfl)
