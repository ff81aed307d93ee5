def zW0L : List Nat := [0, 0, 0, 0, 1, 1, 1, 1, 2, 2, 2, 2, 3, 3, 3, 4, 4, 4, 4, 4, 5, 5, 5, 5, 5, 5, 6, 6, 6, 7, 7, 7, 7, 8, 8, 8, 8, 8, 8, 9, 9, 9, 9, 9, 9, 9, 9, 9, 10, 10, 10, 10, 10, 10, 10, 11, 11, 11, 11, 11, 11, 12, 12, 12, 12, 12, 13, 13, 13, 13, 14, 14, 14, 14, 14, 15, 15, 15, 15, 15, 15, 16, 16, 16, 16, 16, 16, 16, 16, 17, 17, 17, 17, 17, 17, 17, 18, 18, 18, 18, 18, 18, 18, 19, 19, 19, 19, 19, 20, 20, 20, 20, 20, 20, 20, 20, 21, 21, 21, 21, 21, 21, 22, 22, 22, 22, 22, 23, 23, 23, 23, 23, 23, 24, 24, 24, 24, 24]
def zT2L : List Int64 := [0, 105, 26990, 6909556, 0, 118, 30305, 7758194, 0, 108, 27759, 7106407, 0, 105, 26982, 0, 101, 25964, 6646899, 1701606245, 0, 119, 30568, 7825513, 2003331436, 512852847717, 0, 100, 25711, 0, 102, 26223, 6713202, 0, 98, 25202, 6451813, 1651664225, 422826041707, 0, 99, 25455, 6516590, 1668247156, 427071272041, 109330245642606, 27988542884507253, 7165066978433856869, 0, 114, 29285, 7497076, 1919251573, 491328402802, 125780071117422, 0, 116, 29800, 7628914, 1953002095, 499968536439, 0, 108, 27759, 7106403, 1819239275, 0, 116, 29810, 7631481, 0, 119, 30569, 7825780, 2003399784, 0, 99, 25441, 6513012, 1667331171, 426836779880, 0, 102, 26217, 6711662, 1718185569, 439855505772, 112603009477740, 28826370426301561, 0, 97, 24947, 6386547, 1634956133, 418548770162, 107148485161588, 0, 115, 29559, 7567209, 1937205620, 495924638819, 126956707537768, 0, 99, 25441, 6513011, 1667330917, 0, 100, 25701, 6579558, 1684366945, 431197938037, 110386672137580, 28258988067220596, 0, 121, 31081, 7956837, 2036950380, 521459297380, 0, 116, 29810, 7631477, 1953658213, 0, 102, 26209, 6709612, 1717660787, 439721161573, 0, 110, 28277, 7239020, 1853189228]
def zWVL : List Int64 := [6909556, 7758194, 7106407, 26982, 1701606245, 512852847717, 25711, 6713202, 422826041707, 7165066978433856869, 125780071117422, 499968536439, 1819239275, 7631481, 2003399784, 426836779880, 28826370426301561, 107148485161588, 126956707537768, 1667330917, 28258988067220596, 521459297380, 1953658213, 439721161573, 1853189228]
def zW0 (i : Nat) : Nat := zW0L.getD i 0
def zT2 (i : Nat) : Int64 := zT2L.getD i 0
/-- the words as far as they are laid -/
def zF (i : Nat) : Nat → Int64 := fun j => if j < zW0 i then zWVL.getD j 0 else if j = zW0 i then zT2 i else 0
theorem zSTP.all : ∀ i, i < 137 → zW0 i < 25 ∧ (zCH (nI i) = 32 → zW0 (i + 1) = zW0 i + 1 ∧ zT2 (i + 1) = 0 ∧ zT2 i = zWVL.getD (zW0 i) 0) ∧ (¬ zCH (nI i) = 32 → zW0 (i + 1) = zW0 i ∧ zT2 (i + 1) = (zT2 i <<< ((8 : Int32).toInt64 &&& 63)) ||| (zCH (nI i)).toInt64) := by decide +kernel
theorem zF.sp {i : Nat} (hi : i < 137) (h : zCH (nI i) = 32) : zW0 (i + 1) = zW0 i + 1 ∧ zF (i + 1) = zF i := by
  obtain ⟨-, a, -⟩ := zSTP.all i hi
  obtain ⟨a1, a2, a3⟩ := a h
  refine ⟨a1, funext fun j => ?_⟩
  unfold zF
  rw [a1, a2]
  by_cases c : j < zW0 i
  · rw [if_pos (by omega), if_pos c]
  · rw [if_neg c]
    by_cases d : j = zW0 i
    · rw [if_pos (by omega), if_pos d, a3, d]
    · rw [if_neg (by omega), if_neg d]
      by_cases e : j = zW0 i + 1
      · rw [if_pos e]
      · rw [if_neg e]
theorem zF.ch {i : Nat} (hi : i < 137) (h : ¬ zCH (nI i) = 32) : zW0 (i + 1) = zW0 i ∧ zF (i + 1) = vp_updL (zF i) (zW0 i) ((zF i (zW0 i) <<< ((8 : Int32).toInt64 &&& 63)) ||| (zCH (nI i)).toInt64) := by
  obtain ⟨-, -, a⟩ := zSTP.all i hi
  obtain ⟨a1, a2⟩ := a h
  have e0 : zF i (zW0 i) = zT2 i := by
    unfold zF
    rw [if_neg (by omega), if_pos rfl]
  refine ⟨a1, funext fun j => ?_⟩
  rw [e0, ← a2]
  show zF (i + 1) j = if j = zW0 i then zT2 (i + 1) else zF i j
  unfold zF
  rw [a1]
  by_cases c : j < zW0 i
  · rw [if_pos c, if_neg (by omega), if_pos c]
  · rw [if_neg c]
    by_cases d : j = zW0 i
    · rw [if_pos d, if_pos d]
    · rw [if_neg d, if_neg d, if_neg c, if_neg d]
theorem zF.z : zF 0 = fun _ => 0 := by
  funext j
  unfold zF
  have e1 : zW0 0 = 0 := rfl
  have e2 : zT2 0 = 0 := rfl
  rw [e1, e2, if_neg (by omega)]
  by_cases d : j = 0
  · rw [if_pos d]
  · rw [if_neg d]
theorem k_X9_init_fieldLink_RX9_9_SR_Tokens_words_J : Cond.fieldLink RX9 9 "StatementRules2$Tokens" "words" "[J" ∈ wzX9_init := List.mem_cons_of_mem _ (List.mem_append_left _ (List.mem_of_getElem? (i := 0) rfl))
theorem i_X9_init_X9 : ∀ w ∈ wsX90, w ∈ wzX9_init := fun _ h => List.mem_cons_of_mem _ (List.mem_append_right _ (List.mem_append_left _ (h)))
set_option maxHeartbeats 4000000 in
set_option maxRecDepth 100000 in
theorem z_loopX9 {p : Program} {e : Env} {s : State} {m : MethodId} {args : Array Value} {below : List Frame} {meth : Method} {c : Code} {Q : State → Prop} {A : Nat → Prop} (l : Launch) (dC : Nat → ClassId) (dI : Nat → Nat → Nat) (h0 qt q1 : Nat) (k1 : ClassId) (aS aV : Nat) (hx : p.tables.exec = Jvm.exec) (hb : c.code = cX9_init) (hml : c.maxLocals = 4) (hown : s.vm.findClass RX9 = some m.cls) (hts : ∀ w ∈ wzX9_init, w.before args s = true) (hZ : zAMB s) (hX : zSTR aS aV A s s.heap) (hA : ∀ q : Nat, s.heap.size ≤ q → A q) (hK : va_K (dC, dI) vwCl [(k1, .long)] s) (kk : ∀ (H : Heap) (locs : List Loc) (ls : Array Slot), va_P (dC, dI) vwCl [(h0, .inr (8, [.ref qt, .ref q1, .int 0, .int 0, .int 0, .int 0, .int 0, .long 0])), (q1, .inl (k1, 25, .inr (.inl (zF 137))))] H → va_D A [(h0, .inr (8, [.ref qt, .ref q1, .int 0, .int 0, .int 0, .int 0, .int 0, .long 0])), (q1, .inl (k1, 25, .inr (.inl (zF 137))))] → va_S A s.heap H locs → lv_has ls 4 [(0, .ref h0)] → W p l e ({ frames := 5, cells := 1, slots := 25, locals := 300 }) s m args below meth c H locs 1 25 Q (F0 m 82 ls [])) : ∀ (n i : Nat) (xi yw : Int32) (f : Nat → Int64) (H : Heap) (locs : List Loc) (ls : Array Slot), i + n = 137 → xi = nI i → yw = nI (zW0 i) → f = zF i → va_P (dC, dI) vwCl [(h0, .inr (8, [.ref qt, .ref q1, .int 0, .int 0, .int 0, .int 0, .int 0, .long 0])), (q1, .inl (k1, 25, .inr (.inl f)))] H → va_D A [(h0, .inr (8, [.ref qt, .ref q1, .int 0, .int 0, .int 0, .int 0, .int 0, .long 0])), (q1, .inl (k1, 25, .inr (.inl f)))] → va_S A s.heap H locs → lv_has ls 4 [(3, .int xi), (2, .int yw), (0, .ref h0), (1, .ref qt)] → W p l e ({ frames := 5, cells := 1, slots := 25, locals := 300 }) s m args below meth c H locs 1 25 Q (F0 m 21 ls []) := by
  intro n
  induction n with
  | zero =>
    intro i xi yw f H locs ls hi hx9 hy9 hf9 hP hD hS hl
    have hge : (137 : Int32) ≤ xi := by rw [hx9, show i = 137 by omega]; decide
    refine lv_iload_n hx hb dX9_init_21 rfl (lv_at hl 0 rfl) ?_
    refine va_ldcS (tx := zTX) (q := aS) hx hb hown hX.1 dX9_init_22 ?_
    have hPc := hP.sub (ws' := []) [] rfl
    have hDc := hD.sub (ws' := []) [] (by decide) rfl
    have hKc := hK.sub (tys' := []) [] rfl
    have hFc := va_free (wc := []) hD hS hA [] rfl
    refine va_calli (va_runV (As := []) (rest := [.int xi]) ⟨hx, hb, hml, hown, hts⟩ (c_J0_length_8abf5 l dC dI _ aS aV) (cwV 0 hts hX9_init_J0_length_8abf5_v21 rfl rfl rfl (by decide +kernel) ⟨Nat.le_of_ble_eq_true rfl, Nat.le_of_ble_eq_true rfl⟩) ⟨zPreS.blind, hX.recv hS, zPreS.go hX hS hFc hZ hPc hKc hDc⟩ rfl rfl hl.1 rfl (lv_room (Nat.le_of_ble_eq_true rfl)) dX9_init_24 ⟨Nat.le_of_ble_eq_true rfl, Nat.le_of_ble_eq_true rfl⟩) hS (fun q _ h => hFc q h) hFc (fun r1 u9 t9 H1 locs ht hvm hw hB hz1 hk1 hS => ?_)
    obtain ⟨hP1, hK1, hD1⟩ := hB
    rw [ht] at hP1
    have hK1 := va_K.moved hvm.symm hK1
    obtain ⟨hP, hD⟩ := va_join (wr := [(h0, .inr (8, [.ref qt, .ref q1, .int 0, .int 0, .int 0, .int 0, .int 0, .long 0])), (q1, .inl (k1, 25, .inr (.inl f)))]) (w1 := []) hP hD [] [0, 1] rfl rfl (by decide) (by decide) hk1 hFc hP1 hD1
    have hK := hK.app hK1
    generalize H1 = H at hP hS ⊢
    have hP : va_P (dC, dI) vwCl [(h0, .inr (8, [.ref qt, .ref q1, .int 0, .int 0, .int 0, .int 0, .int 0, .long 0])), (q1, .inl (k1, 25, .inr (.inl f)))] H := hP
    have hD : va_D A [(h0, .inr (8, [.ref qt, .ref q1, .int 0, .int 0, .int 0, .int 0, .int 0, .long 0])), (q1, .inl (k1, 25, .inr (.inl f)))] := hD
    have hK : va_K (dC, dI) vwCl [(k1, .long)] s := hK
    obtain rfl : r1 = 137 := hw
    refine lv_icmp_ge (tgt := 82) hx hb dX9_init_27 (by decide) (fun _ => ?_) (fun c9 => absurd hge c9)
    have e137 : i = 137 := by omega
    rw [hf9, e137] at hP hD
    exact kk _ _ _ hP hD hS (lv_sub hl [2] rfl)
  | succ n ih =>
    intro i xi yw f H locs ls hi hx9 hy9 hf9 hP hD hS hl
    have hge : ¬ (137 : Int32) ≤ xi := by rw [hx9]; exact nI_ge (a := i) (b := 137) (by omega) (by decide)
    have hin : vp_in xi 137 := by rw [hx9]; exact vp_in_nI (by omega) (by decide)
    refine lv_iload_n hx hb dX9_init_21 rfl (lv_at hl 0 rfl) ?_
    refine va_ldcS (tx := zTX) (q := aS) hx hb hown hX.1 dX9_init_22 ?_
    have hPc := hP.sub (ws' := []) [] rfl
    have hDc := hD.sub (ws' := []) [] (by decide) rfl
    have hKc := hK.sub (tys' := []) [] rfl
    have hFc := va_free (wc := []) hD hS hA [] rfl
    refine va_calli (va_runV (As := []) (rest := [.int xi]) ⟨hx, hb, hml, hown, hts⟩ (c_J0_length_8abf5 l dC dI _ aS aV) (cwV 0 hts hX9_init_J0_length_8abf5_v21 rfl rfl rfl (by decide +kernel) ⟨Nat.le_of_ble_eq_true rfl, Nat.le_of_ble_eq_true rfl⟩) ⟨zPreS.blind, hX.recv hS, zPreS.go hX hS hFc hZ hPc hKc hDc⟩ rfl rfl hl.1 rfl (lv_room (Nat.le_of_ble_eq_true rfl)) dX9_init_24 ⟨Nat.le_of_ble_eq_true rfl, Nat.le_of_ble_eq_true rfl⟩) hS (fun q _ h => hFc q h) hFc (fun r2 u9 t9 H1 locs ht hvm hw hB hz1 hk1 hS => ?_)
    obtain ⟨hP1, hK1, hD1⟩ := hB
    rw [ht] at hP1
    have hK1 := va_K.moved hvm.symm hK1
    obtain ⟨hP, hD⟩ := va_join (wr := [(h0, .inr (8, [.ref qt, .ref q1, .int 0, .int 0, .int 0, .int 0, .int 0, .long 0])), (q1, .inl (k1, 25, .inr (.inl f)))]) (w1 := []) hP hD [] [0, 1] rfl rfl (by decide) (by decide) hk1 hFc hP1 hD1
    have hK := hK.app hK1
    generalize H1 = H at hP hS ⊢
    have hP : va_P (dC, dI) vwCl [(h0, .inr (8, [.ref qt, .ref q1, .int 0, .int 0, .int 0, .int 0, .int 0, .long 0])), (q1, .inl (k1, 25, .inr (.inl f)))] H := hP
    have hD : va_D A [(h0, .inr (8, [.ref qt, .ref q1, .int 0, .int 0, .int 0, .int 0, .int 0, .long 0])), (q1, .inl (k1, 25, .inr (.inl f)))] := hD
    have hK : va_K (dC, dI) vwCl [(k1, .long)] s := hK
    obtain rfl : r2 = 137 := hw
    refine lv_icmp_ge (tgt := 82) hx hb dX9_init_27 (by decide) (fun c9 => absurd c9 hge) (fun _ => ?_)
    refine va_ldcS (tx := zTX) (q := aS) hx hb hown hX.1 dX9_init_30 ?_
    refine lv_iload_n hx hb dX9_init_32 rfl (lv_at hl 0 rfl) ?_
    have hPc := hP.sub (ws' := []) [] rfl
    have hDc := hD.sub (ws' := []) [] (by decide) rfl
    have hKc := hK.sub (tys' := []) [] rfl
    have hFc := va_free (wc := []) hD hS hA [] rfl
    refine va_calli (va_runV (As := [.int xi]) (rest := []) ⟨hx, hb, hml, hown, hts⟩ (c_J0_charAt_5068e l dC dI _ aS aV xi hin) (cwV 1 hts hX9_init_J0_charAt_5068e_v27 rfl rfl rfl (by decide +kernel) ⟨Nat.le_of_ble_eq_true rfl, Nat.le_of_ble_eq_true rfl⟩) ⟨zPreS.blind, hX.recv hS, zPreS.go hX hS hFc hZ hPc hKc hDc⟩ rfl rfl hl.1 rfl (lv_room (Nat.le_of_ble_eq_true rfl)) dX9_init_33 ⟨Nat.le_of_ble_eq_true rfl, Nat.le_of_ble_eq_true rfl⟩) hS (fun q _ h => hFc q h) hFc (fun r3 u9 t9 H1 locs ht hvm hw hB hz1 hk1 hS => ?_)
    have hr3 := hw
    obtain ⟨hP1, hK1, hD1⟩ := hB
    rw [ht] at hP1
    have hK1 := va_K.moved hvm.symm hK1
    obtain ⟨hP, hD⟩ := va_join (wr := [(h0, .inr (8, [.ref qt, .ref q1, .int 0, .int 0, .int 0, .int 0, .int 0, .long 0])), (q1, .inl (k1, 25, .inr (.inl f)))]) (w1 := []) hP hD [] [0, 1] rfl rfl (by decide) (by decide) hk1 hFc hP1 hD1
    have hK := hK.app hK1
    generalize H1 = H at hP hS ⊢
    have hP : va_P (dC, dI) vwCl [(h0, .inr (8, [.ref qt, .ref q1, .int 0, .int 0, .int 0, .int 0, .int 0, .long 0])), (q1, .inl (k1, 25, .inr (.inl f)))] H := hP
    have hD : va_D A [(h0, .inr (8, [.ref qt, .ref q1, .int 0, .int 0, .int 0, .int 0, .int 0, .long 0])), (q1, .inl (k1, 25, .inr (.inl f)))] := hD
    have hK : va_K (dC, dI) vwCl [(k1, .long)] s := hK
    refine lv_bipush (v := 32) hx hb dX9_init_36 (by decide) ?_
    refine lv_icmp_ne (tgt := 47) hx hb dX9_init_38 (by decide) (fun c4 => ?_) (fun c4 => ?_)
    ·
      refine lv_iload_n hx hb dX9_init_47 rfl (lv_at hl 1 rfl) ?_
      refine lv_bipush (v := 25) hx hb dX9_init_48 (by decide) ?_
      refine lv_icmp_ge (tgt := 76) hx hb dX9_init_50 (by decide) (fun c5 => ?_) (fun c5 => ?_)
      ·
        obtain ⟨z6, ez6⟩ : ∃ y : Int32, y = xi + Int32.ofInt (1) := ⟨_, rfl⟩
        refine lv_iinc (v := z6) (lv' := [(3, .int z6), (2, .int yw), (0, .ref h0), (1, .ref qt)]) hx hb dX9_init_76 hl (k := 0) rfl (ez6.symm) (by decide) rfl (fun ls hl => ?_)
        refine lv_goto (tgt := 21) hx hb dX9_init_79 (by decide) ?_
        exact absurd c5 (by rw [hy9]; exact nI_ge (a := zW0 i) (b := 25) ((zSTP.all i (by omega)).1) (by decide))
      ·
        have hwin : vp_in yw 25 := z_win hy9 (by have := (zSTP.all i (by omega)).1; omega) c5
        refine lv_aload_n hx hb dX9_init_53 rfl (lv_at hl 2 rfl) ?_
        refine va_get (D := (dC, dI)) (ci := 8) (v := .ref q1) (C := RX9) (T := TX9) (N := 8) hx hb hts i_X9_init_X9 hown hK hP 0 rfl rfl 1 (by decide) (hts (.fieldLink RX9 9 "StatementRules2$Tokens" "words" "[J") k_X9_init_fieldLink_RX9_9_SR_Tokens_words_J) (fun _ h9 => h9) rfl dX9_init_54 ?_
        refine lv_iload_n hx hb dX9_init_57 rfl (lv_at hl 1 rfl) ?_
        refine lv_aload_n hx hb dX9_init_58 rfl (lv_at hl 2 rfl) ?_
        refine va_get (D := (dC, dI)) (ci := 8) (v := .ref q1) (C := RX9) (T := TX9) (N := 8) hx hb hts i_X9_init_X9 hown hK hP 0 rfl rfl 1 (by decide) (hts (.fieldLink RX9 9 "StatementRules2$Tokens" "words" "[J") k_X9_init_fieldLink_RX9_9_SR_Tokens_words_J) (fun _ h9 => h9) rfl dX9_init_59 ?_
        refine lv_iload_n hx hb dX9_init_62 rfl (lv_at hl 1 rfl) ?_
        refine va_lald hx hb hK hP 1 0 rfl rfl hwin dX9_init_63 ?_
        refine lv_topl (fun z7 ez7 => ?_)
        refine lv_bipush (v := 8) hx hb dX9_init_64 (by decide) ?_
        obtain ⟨z8, ez8⟩ : ∃ y : Int64, y = (z7 : Int64) <<< ((8 : Int32).toInt64 &&& 63) := ⟨_, rfl⟩
        refine lv_lshl (v := z8) hx hb dX9_init_66 ez8.symm ?_
        refine va_ldcS (tx := zTX) (q := aS) hx hb hown hX.1 dX9_init_67 ?_
        refine lv_iload_n hx hb dX9_init_69 rfl (lv_at hl 0 rfl) ?_
        have hPc := hP.sub (ws' := []) [] rfl
        have hDc := hD.sub (ws' := []) [] (by decide) rfl
        have hKc := hK.sub (tys' := []) [] rfl
        have hFc := va_free (wc := []) hD hS hA [] rfl
        refine va_calli (va_runV (As := [.int xi]) (rest := [.long z8, .int yw, .ref q1]) ⟨hx, hb, hml, hown, hts⟩ (c_J0_charAt_5068e l dC dI _ aS aV xi hin) (cwV 1 hts hX9_init_J0_charAt_5068e_v27 rfl rfl rfl (by decide +kernel) ⟨Nat.le_of_ble_eq_true rfl, Nat.le_of_ble_eq_true rfl⟩) ⟨zPreS.blind, hX.recv hS, zPreS.go hX hS hFc hZ hPc hKc hDc⟩ rfl rfl hl.1 rfl (lv_room (Nat.le_of_ble_eq_true rfl)) dX9_init_70 ⟨Nat.le_of_ble_eq_true rfl, Nat.le_of_ble_eq_true rfl⟩) hS (fun q _ h => hFc q h) hFc (fun r9 u9 t9 H1 locs ht hvm hw hB hz1 hk1 hS => ?_)
        have hr9 := hw
        obtain ⟨hP1, hK1, hD1⟩ := hB
        rw [ht] at hP1
        have hK1 := va_K.moved hvm.symm hK1
        obtain ⟨hP, hD⟩ := va_join (wr := [(h0, .inr (8, [.ref qt, .ref q1, .int 0, .int 0, .int 0, .int 0, .int 0, .long 0])), (q1, .inl (k1, 25, .inr (.inl f)))]) (w1 := []) hP hD [] [0, 1] rfl rfl (by decide) (by decide) hk1 hFc hP1 hD1
        have hK := hK.app hK1
        generalize H1 = H at hP hS ⊢
        have hP : va_P (dC, dI) vwCl [(h0, .inr (8, [.ref qt, .ref q1, .int 0, .int 0, .int 0, .int 0, .int 0, .long 0])), (q1, .inl (k1, 25, .inr (.inl f)))] H := hP
        have hD : va_D A [(h0, .inr (8, [.ref qt, .ref q1, .int 0, .int 0, .int 0, .int 0, .int 0, .long 0])), (q1, .inl (k1, 25, .inr (.inl f)))] := hD
        have hK : va_K (dC, dI) vwCl [(k1, .long)] s := hK
        obtain ⟨z10, ez10⟩ : ∃ y : Int64, y = (r9 : Int32).toInt64 := ⟨_, rfl⟩
        refine lv_i2l (v := z10) hx hb dX9_init_73 ez10.symm ?_
        refine lv_lor hx hb dX9_init_74 ?_
        refine lv_topl (fun z11 ez11 => ?_)
        refine va_last hx hb hK hP hD hS 1 0 rfl rfl hwin dX9_init_75 (fun H locs hP hD hS => ?_)
        obtain ⟨f12, hfv, hP, hD⟩ : ∃ (f12 : Nat → Int64), f12 = vp_updL f yw.toNatClampNeg ((f yw.toNatClampNeg <<< ((8 : Int32).toInt64 &&& 63)) ||| (r9 : Int32).toInt64) ∧ va_P (dC, dI) vwCl [(h0, .inr (8, [.ref qt, .ref q1, .int 0, .int 0, .int 0, .int 0, .int 0, .long 0])), (q1, .inl (k1, 25, .inr (.inl f12)))] H ∧ va_D A [(h0, .inr (8, [.ref qt, .ref q1, .int 0, .int 0, .int 0, .int 0, .int 0, .long 0])), (q1, .inl (k1, 25, .inr (.inl f12)))] := ⟨_, by rw [ez11, ez10, ez8, ez7], hP, hD⟩
        obtain ⟨z13, ez13⟩ : ∃ y : Int32, y = xi + Int32.ofInt (1) := ⟨_, rfl⟩
        refine lv_iinc (v := z13) (lv' := [(3, .int z13), (2, .int yw), (0, .ref h0), (1, .ref qt)]) hx hb dX9_init_76 hl (k := 0) rfl (ez13.symm) (by decide) rfl (fun ls hl => ?_)
        refine lv_goto (tgt := 21) hx hb dX9_init_79 (by decide) ?_
        have hch := zF.ch (i := i) (by omega) (by rw [← hx9, ← hr3.2]; exact c4)
        exact ih (i + 1) z13 yw _ _ _ _ (by omega) (by rw [ez13, hx9]; exact nI_1 i) (by rw [hch.1]; exact hy9) (by rw [hch.2, hfv, hy9, nI_clamp (by have := (zSTP.all i (by omega)).1; omega), hf9, ← hx9, ← hr9.2]) hP hD hS (lv_sub hl [0, 1, 2, 3] rfl)
    ·
      obtain ⟨z14, ez14⟩ : ∃ y : Int32, y = yw + Int32.ofInt (1) := ⟨_, rfl⟩
      refine lv_iinc (v := z14) (lv' := [(2, .int z14), (3, .int xi), (0, .ref h0), (1, .ref qt)]) hx hb dX9_init_41 hl (k := 1) rfl (ez14.symm) (by decide) rfl (fun ls hl => ?_)
      refine lv_goto (tgt := 76) hx hb dX9_init_44 (by decide) ?_
      obtain ⟨z15, ez15⟩ : ∃ y : Int32, y = xi + Int32.ofInt (1) := ⟨_, rfl⟩
      refine lv_iinc (v := z15) (lv' := [(3, .int z15), (2, .int z14), (0, .ref h0), (1, .ref qt)]) hx hb dX9_init_76 hl (k := 1) rfl (ez15.symm) (by decide) rfl (fun ls hl => ?_)
      refine lv_goto (tgt := 21) hx hb dX9_init_79 (by decide) ?_
      have hsp := zF.sp (i := i) (by omega) (by rw [← hx9, ← hr3.2]; exact c4)
      exact ih (i + 1) z15 z14 _ _ _ _ (by omega) (by rw [ez15, hx9]; exact nI_1 i) (by rw [ez14, hy9, hsp.1]; exact nI_1 _) (hf9.trans hsp.2.symm) hP hD hS (lv_sub hl [0, 1, 2, 3] rfl)
theorem k_X9_init_methodLink_RX9_3_objectInit : Cond.methodLink RX9 3 objectInit ∈ wzX9_init := List.mem_cons_of_mem _ (List.mem_append_left _ (List.mem_of_getElem? (i := 1) rfl))
theorem k_X9_init_instanceMethod_objectInit : Cond.instanceMethod objectInit ∈ wzX9_init := List.mem_cons_of_mem _ (List.mem_append_left _ (List.mem_of_getElem? (i := 2) rfl))
theorem k_X9_init_code_objectInit_0xb1_1_none : Cond.code objectInit ⟨#[0xb1]⟩ 1 none ∈ wzX9_init := List.mem_cons_of_mem _ (List.mem_append_left _ (List.mem_of_getElem? (i := 3) rfl))
theorem k_X9_init_arrayClass_long : Cond.arrayClass .long ∈ wzX9_init := List.mem_cons_of_mem _ (List.mem_append_left _ (List.mem_of_getElem? (i := 4) rfl))
theorem k_X9_init_fieldLink_RX9_15_SR_Tokens_tape_I : Cond.fieldLink RX9 15 "StatementRules2$Tokens" "tape" "[I" ∈ wzX9_init := List.mem_cons_of_mem _ (List.mem_append_left _ (List.mem_of_getElem? (i := 5) rfl))
set_option maxHeartbeats 4000000 in
set_option maxRecDepth 100000 in
theorem c_X9_init (l : Launch) (dC : Nat → ClassId) (dI : Nat → Nat → Nat) (sz : Nat) (h0 : Nat) (qt : Nat) (aS : Nat) (aV : Nat) : Met l yX9_init wzX9_init ({ frames := 5, cells := 1, slots := 25, locals := 300 }) (va_Pc [.ref h0, .ref qt] (zPreS dC dI sz [(h0, .inr (8, [.null, .null, .int 0, .int 0, .int 0, .int 0, .int 0, .long 0]))] [] aS aV)) (va_Qv (fun (_ : Unit) => True) (fun (_ : Unit) (t : State) => ∃ (qw : Nat), ∃ (kw : ClassId), zPost dC dI (va_A [(h0, .inr (8, [.null, .null, .int 0, .int 0, .int 0, .int 0, .int 0, .long 0]))] sz) [(h0, .inr (8, [.ref qt, .ref qw, .int 0, .int 0, .int 0, .int 0, .int 0, .long 0])), (qw, .inl (kw, 25, .inr (.inl (zF 137))))] [(kw, .long)] t) (va_A [(h0, .inr (8, [.null, .null, .int 0, .int 0, .int 0, .int 0, .int 0, .long 0]))] sz)) 1 25 (va_A [(h0, .inr (8, [.null, .null, .int 0, .int 0, .int 0, .int 0, .int 0, .long 0]))] sz) := by
  refine Met.ofW (cc := cX9_init) (maxL := 4) (ret := none) (by decide) rfl ?_
  intro p e s m args below meth c s₁ B hml hv
  obtain ⟨rfl, ⟨hsz, hZ, hP, hK, hD0⟩, hX⟩ := hv
  have hx := B.exec
  have hb := B.bytes
  have hr := B.returns
  have hts := atoms_spec (ws := wzX9_init) B.pre
  have hown : s.vm.findClass RX9 = some m.cls := findClass_of_methodNamed B.named
  have hlocks := B.notSynchronized
  have hin : meth.name = "<init>" := (name_of_methodNamed B.named B.method).1
  subst hsz
  have hD := hD0.self (sz := s.heap.size)
  generalize hAe : va_A [(h0, .inr (8, [.null, .null, .int 0, .int 0, .int 0, .int 0, .int 0, .long 0]))] s.heap.size = A at hD hX ⊢
  have hA : ∀ q : Nat, s.heap.size ≤ q → A q := fun q h => by rw [← hAe]; exact Or.inr h
  have hS : va_S A s.heap s.heap [] := va_S.rf
  have hP : va_P (dC, dI) vwCl [(h0, .inr (8, [.null, .null, .int 0, .int 0, .int 0, .int 0, .int 0, .long 0]))] s.heap := hP
  have hl := lv_entry ([.ref h0, .ref qt]) (n := 4) (Nat.le_of_ble_eq_true rfl)
  rw [lg_entry_eq]
  generalize (lg_sl ([.ref h0, .ref qt]) ++ List.replicate (4 - (lg_sl ([.ref h0, .ref qt])).length) Slot.unset).toArray = ls at hl ⊢
  have hl : lv_has ls 4 [(0, .ref h0), (1, .ref qt)] := hl
  refine lv_aload_n hx hb dX9_init_0 rfl (lv_at hl 0 rfl) ?_
  refine W.objInit hx hb hown (hts (.methodLink RX9 3 objectInit) k_X9_init_methodLink_RX9_3_objectInit) (hts (.instanceMethod objectInit) k_X9_init_instanceMethod_objectInit) (hts (.code objectInit ⟨#[0xb1]⟩ 1 none) k_X9_init_code_objectInit_0xb1_1_none) rfl (by rw [hml]; exact hl.1) rfl dX9_init_1 (Nat.le_of_ble_eq_true rfl) (Nat.le_of_ble_eq_true rfl) ?_
  refine W.eq (g2 := F0 m 4 ls []) rfl ?_
  refine lv_aload_n hx hb dX9_init_4 rfl (lv_at hl 0 rfl) ?_
  refine lv_bipush (v := 25) hx hb dX9_init_5 (by decide) ?_
  refine va_newa (atype := .long) (ty := .long) (N' := 25) (a0 := (25, .inr (.inl (fun _ => 0)))) hx hb (hts (.arrayClass .long) k_X9_init_arrayClass_long) rfl hK hP hD hS hA (z_newl 25) (by decide) (by decide) (by decide) (Nat.le_of_ble_eq_true rfl) (Nat.le_of_ble_eq_true rfl) dX9_init_7 (fun q1 kq1 H hK hP hD hS => ?_)
  refine W.widen (k := 1) (n := 25) (by omega) (by omega) ?_
  have hP : va_P (dC, dI) vwCl [(h0, .inr (8, [.null, .null, .int 0, .int 0, .int 0, .int 0, .int 0, .long 0])), (q1, .inl (kq1, 25, .inr (.inl (fun _ => 0))))] H := hP
  have hD : va_D A [(h0, .inr (8, [.null, .null, .int 0, .int 0, .int 0, .int 0, .int 0, .long 0])), (q1, .inl (kq1, 25, .inr (.inl (fun _ => 0))))] := hD
  have hK : va_K (dC, dI) vwCl [(kq1, .long)] s := hK
  refine va_putF (D := (dC, dI)) (ci := 8) (v := .ref q1) (ty := (.array .long)) (C := RX9) (T := TX9) (N := 8) hx hb hts i_X9_init_X9 tyX9 tyX9_ok nmX9 hown hK hP hD hS 0 rfl rfl 1 (by decide) (hts (.fieldLink RX9 9 "StatementRules2$Tokens" "words" "[J") k_X9_init_fieldLink_RX9_9_SR_Tokens_words_J) (fun _ h9 => h9) rfl hin rfl (by decide +kernel) rfl rfl (Nat.le_of_ble_eq_true rfl) dX9_init_9 (fun H locs hP hD hS => ?_)
  have hP : va_P (dC, dI) vwCl [(h0, .inr (8, [.null, .ref q1, .int 0, .int 0, .int 0, .int 0, .int 0, .long 0])), (q1, .inl (kq1, 25, .inr (.inl (fun _ => 0))))] H := hP
  have hD : va_D A [(h0, .inr (8, [.null, .ref q1, .int 0, .int 0, .int 0, .int 0, .int 0, .long 0])), (q1, .inl (kq1, 25, .inr (.inl (fun _ => 0))))] := hD
  refine lv_aload_n hx hb dX9_init_12 rfl (lv_at hl 0 rfl) ?_
  refine lv_aload_n hx hb dX9_init_13 rfl (lv_at hl 1 rfl) ?_
  refine va_putF (D := (dC, dI)) (ci := 8) (v := .ref qt) (ty := (.array .int)) (C := RX9) (T := TX9) (N := 8) hx hb hts i_X9_init_X9 tyX9 tyX9_ok nmX9 hown hK hP hD hS 0 rfl rfl 0 (by decide) (hts (.fieldLink RX9 15 "StatementRules2$Tokens" "tape" "[I") k_X9_init_fieldLink_RX9_15_SR_Tokens_tape_I) (fun _ h9 => h9) rfl hin rfl (by decide +kernel) rfl rfl (Nat.le_of_ble_eq_true rfl) dX9_init_14 (fun H locs hP hD hS => ?_)
  have hP : va_P (dC, dI) vwCl [(h0, .inr (8, [.ref qt, .ref q1, .int 0, .int 0, .int 0, .int 0, .int 0, .long 0])), (q1, .inl (kq1, 25, .inr (.inl (fun _ => 0))))] H := hP
  have hD : va_D A [(h0, .inr (8, [.ref qt, .ref q1, .int 0, .int 0, .int 0, .int 0, .int 0, .long 0])), (q1, .inl (kq1, 25, .inr (.inl (fun _ => 0))))] := hD
  refine lv_iconst (v := 0) hx hb dX9_init_17 (by decide) ?_
  refine lv_istore_n (lv' := [(2, .int 0), (0, .ref h0), (1, .ref qt)]) hx hb dX9_init_18 rfl hl (by decide) rfl (fun ls hl => ?_)
  refine lv_iconst (v := 0) hx hb dX9_init_19 (by decide) ?_
  refine lv_istore_n (lv' := [(3, .int 0), (2, .int 0), (0, .ref h0), (1, .ref qt)]) hx hb dX9_init_20 rfl hl (by decide) rfl (fun ls hl => ?_)
  refine z_loopX9 l dC dI h0 qt q1 kq1 aS aV hx hb hml hown hts hZ hX hA hK (fun H locs ls hP hD hS hl => ?_) 137 0 0 0 _ _ _ _ rfl nI_0.symm nI_0.symm zF.z.symm hP hD hS (lv_sub hl [0, 1, 2, 3] rfl)
  have hP9 := hP.sub (ws' := [(h0, .inr (8, [.ref qt, .ref q1, .int 0, .int 0, .int 0, .int 0, .int 0, .long 0])), (q1, .inl (kq1, 25, .inr (.inl (zF 137))))]) [0, 1] rfl
  have hD9 := hD.sub (ws' := [(h0, .inr (8, [.ref qt, .ref q1, .int 0, .int 0, .int 0, .int 0, .int 0, .long 0])), (q1, .inl (kq1, 25, .inr (.inl (zF 137))))]) [0, 1] (by decide) rfl
  have hK9 := hK.sub (tys' := [(kq1, .long)]) [0] rfl
  exact W.vret hx hb hr (fun t ht hW => ⟨⟨(), rfl, trivial, q1, kq1, by rw [ht]; exact hP9, va_K.moved hW.alike hK9, hD9⟩, hS.F ht⟩) hS.2.2 dX9_init_82
