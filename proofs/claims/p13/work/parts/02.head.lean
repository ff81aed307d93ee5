section
/-! ===== BEGIN words of one list among another's, by their places ===== -/
theorem goodIn_r {big : List Cond} (ws : List Cond) (ps : List Nat) (hp : ws = ps.filterMap (fun i => big[i]?)) (h : ws.all goodWord = true) : GoodIn big ws := by
  intro w hw
  have h1 := List.all_eq_true.mp h w hw
  rw [hp] at hw
  obtain ⟨i, -, hi⟩ := List.mem_filterMap.mp hw
  have hm : w ∈ big := by first | exact List.mem_of_getElem? hi | exact List.getElem?_mem hi
  exact ⟨hm, good_of_word h1⟩
theorem goodIn_app {big a b : List Cond} (ha : GoodIn big a) (hb : GoodIn big b) : GoodIn big (a ++ b) := fun w h => (List.mem_append.mp h).elim (ha w) (hb w)
theorem goodIn_ca {big a b : List Cond} {c : Cond} (ha : GoodIn big (c :: a)) (hb : GoodIn big b) : GoodIn big (c :: (a ++ b)) := fun w h => (List.mem_cons.mp h).elim (fun e => ha w (List.mem_cons.mpr (Or.inl e))) (fun h => (List.mem_append.mp h).elim (fun h => ha w (List.mem_cons.mpr (Or.inr h))) (hb w))
theorem goodIn_sub {big ws : List Cond} (hm : ∀ w ∈ ws, w ∈ big) (h : ws.all goodWord = true) : GoodIn big ws := fun w hw => ⟨hm w hw, good_of_word (List.all_eq_true.mp h w hw)⟩
/-! ===== END ===== -/

/-! ===== BEGIN exceptions that leave a method, and their catching by the caller (launches without stack traces) ===== -/
section VXA
/-! The laws vx_back, vx_callV, vx_callS, vx_callSW, vx_throw0, vx_throwS follow proofs of the library, with one case more: JvmDerived/Free/Laws.lean (Back.of_free), Shelf42/LK1.lean (callV, callS), Shelf/KitTraced.lean (throwNew0V, throwNewS). -/
/-- where a method has thrown q: the class by its name, the cell, what was written, the world -/
def vx_T (XC : String → State → State → Prop) (st : State) (q : Addr) (t : State) (mc ms : Nat) (free : Addr → Prop) : Prop :=
  ∃ (E : String) (ce : Cell) (L : List Loc), XC E st t ∧ t.heap[q]? = some ce ∧ ce.vm = .none ∧ st.vm.findClass E = some ce.cls ∧ st.WarmedH t.vm ∧ st.sameButNew ({ t with vm := st.vm } : State) L mc ms ∧ ∀ z ∈ L, free z.base
def vx_Q (Qc : Array Value → State → Outcome → State → Prop) (XC : String → State → State → Prop) (mc ms : Nat) (free : Addr → Prop) : Array Value → State → Outcome → State → Prop := fun a st o t =>
  (Qc a st o t ∧ ∃ L, FrameEnd st o t L mc ms ∧ ∀ q ∈ L, free q.base) ∨ ∃ q, o = .threw q ∧ vx_T XC st q t mc ms free
/-- a callee that returns or throws -/
def vx_Met (l : Launch) (y : MethodName) (ws : List Cond) (rm : Room) (Pc : Array Value → State → Prop) (Qc : Array Value → State → Outcome → State → Prop) (XC : String → State → State → Prop) (mc ms : Nat) (free : Addr → Prop) : Prop :=
  MetFree l y (headSpec ws rm) Pc (fun _ _ _ _ _ => True) (vx_Q Qc XC mc ms free)
def vx_Post (XC : String → State → State → Prop) (mc ms : Nat) (free : Addr → Prop) : Pt → Array Value → Addr → Pt → Prop := fun A a q B =>
  ∃ (g : JFrame) (mk : MethodId) (t : State) (L : List Loc) (E : String) (ce : Cell), B.U.heap = t.heap ∧ B.U.vm = t.vm ∧ XC E (A.U.calling g mk a) t ∧ t.heap[q]? = some ce ∧ ce.vm = .none ∧ A.U.vm.findClass E = some ce.cls ∧ B.locs = A.locs ++ L ∧ (∀ z ∈ L, free z.base) ∧ B.cells = A.cells + mc ∧ B.slots = A.slots + ms
def vx_Back (l : Launch) (R : Room) (p : Program) (e : Env) (below : List Frame) (s : State) (sargs : Array Value) (y : MethodName) (len W9 : Nat)
    (Pre : Pt → Array Value → Prop) (Post : Pt → Array Value → Option Value → Pt → Prop) (PostX : Pt → Array Value → Addr → Pt → Prop) : Prop :=
  ∀ (m : MethodId) (meth : Method) (c : Code) (A : Pt) (g : JFrame) (ig : Instr) (mk : MethodId) (a : Array Value),
    Stand p l e R s m sargs below meth c A.U A.locs A.cells A.slots → g.method = m → g.locals.size = c.maxLocals → decode c.code g.pc = .ok (ig, len) →
    2 * g.monitorRoom + (g.stack.map fun v => v.category).sum ≤ W9 → A.U.methodNamed? y = some mk → Pre A a →
    (∃ (v : Option Value) (B : Pt), Stand p l e R s m sargs below meth c B.U B.locs B.cells B.slots ∧ Post A a v B ∧
      Steps p.tables e below (doInvoke e (A.U.setTop g) [] mk a).1 (B.U.setTop { g with pc := g.pc + len, stack := v.toList ++ g.stack })) ∨
    (∃ (q : Addr) (B : Pt), Stand p l e R s m sargs below meth c B.U B.locs B.cells B.slots ∧ PostX A a q B ∧
      Steps p.tables e below (doInvoke e (A.U.setTop g) [] mk a).1 ((B.U.setTop g).pushFrame (.throwing q)))
section Payer
variable {l : Launch} {R : Room} {p : Program} {e : Env} {below : List Frame} {s : State} {sargs : Array Value} {y : MethodName} {len W9 : Nat}
theorem vx_back {ws : List Cond} {rm : Room} {Pc : Array Value → State → Prop} {Qc : Array Value → State → Outcome → State → Prop} {XC : String → State → State → Prop} {mc ms : Nat} {free : Addr → Prop} {bytes : ByteArray} {maxL : Nat} {ret : Option FieldType}
    (hM : vx_Met l y ws rm Pc Qc XC mc ms free) (hblind : FrameBlind Pc) (hrc : rm.cells = mc) (hrs : rm.slots = ms)
    (hframes : rm.frames + 1 ≤ R.frames) (hlocals : W9 + (maxL + 11) + rm.locals ≤ R.locals)
    (hws : ∀ w ∈ ws, ∀ a' U, s.WarmedH U.vm → w.before a' U = true) (hcode : Cond.code y bytes maxL ret ∈ ws) (hinit : ∀ a' U, s.WarmedH U.vm → (Cond.initialized y.cls).before a' U = true) :
    vx_Back l R p e below s sargs y len W9 (PreOf R mc ms Pc) (PostOf Qc mc ms free) (vx_Post XC mc ms free) := by
  intro m meth c A g ig mk a X hg hsize hdg hW hn hp
  have h1 : (headSpec ws rm).pre.before a A.U = true := atoms_intro fun w hw => hws w hw _ _ X.warmed
  have h2 : (Cond.code y bytes maxL ret).before a A.U = true := hws _ hcode _ _ X.warmed
  have h3 : (Cond.initialized y.cls).before a A.U = true := hinit _ _ X.warmed
  have h4 : A.cells + (headSpec ws rm).room.cells ≤ R.cells := by rw [show (headSpec ws rm).room.cells = mc from hrc]; exact hp.1
  have h5 : A.slots + (headSpec ws rm).room.slots ≤ R.slots := by rw [show (headSpec ws rm).room.slots = ms from hrs]; exact hp.2.1
  have hPc : Pc a (A.U.calling g mk a) := hblind _ _ _ _ hp.2.2
  obtain ⟨U, Ls, c0, s0⟩ := A
  dsimp only [Pt.U, Pt.locs, Pt.cells, Pt.slots] at h1 h2 h3 h4 h5 X hn hPc ⊢
  obtain ⟨methY, cY, hmY, hcY, -, hlY, -, -, -, -⟩ := Cond.code_spec hn h2
  obtain ⟨kY, hkY, -⟩ := className_of_methodNamed hn
  have hinitY : kY.init = .initialized := Cond.initialized_spec (findClass_of_methodNamed hn) hkY h3
  have h : At U g.method c below := by rw [hg]; exact X.here
  have hlocals9 : W9 + (maxL + 11) + (headSpec ws rm).room.locals ≤ R.locals := hlocals
  have happ : (headSpec ws rm).appliesLoose y e.platform (U.calling g mk a) = true :=
    Spec.appliesLoose_calling (g := g) h hdg hn hkY hinitY
      (X.room_calling (g := g) (R' := (headSpec ws rm).room) hsize hmY hcY hframes (by rw [hlY]; omega) h4 h5) h1
  obtain ⟨mid, hmid⟩ := h.above
  have hfr : (U.setTop g).frames = (.java g :: mid) ++ below := by rw [State.frames_setTop' g h.top, hmid]; rfl
  obtain ⟨o, s₂, hsteps, -, hend, hq⟩ := Steps.callFree hM p X.admits X.cas X.clock (acts := []) hfr happ hPc trivial
  have hq' : vx_Q Qc XC mc ms free a (U.calling g mk a) o s₂ := hq
  rw [State.frames_setTop' g h.top] at hend
  obtain ⟨g₀, hg0⟩ := Option.isSome_iff_exists.mp h.top
  obtain ⟨r, hr⟩ := State.topJava?_eq_some.mp hg0
  have hr' : (({ U with heap := s₂.heap, slotsUsed := s₂.slotsUsed } : State).setVm s₂.vm).frames = .java g₀ :: r := hr
  rcases hq' with ⟨hqc, L, hfe, hL⟩ | ⟨q, rfl, E, ce, L, hx, hce, hcv, hcl, hW₂, hsm, hL⟩
  · obtain ⟨⟨v, rfl⟩, hW₂, e2, q2, q3, q4, q5, q6⟩ := id hfe
    have e3 : s₂ = ({ (U.calling g mk a).setFrames s₂.frames with heap := s₂.heap, slotsUsed := s₂.slotsUsed } : State).setVm s₂.vm := by
      have : s₂ = ({ s₂ with vm := (U.calling g mk a).vm } : State).setVm s₂.vm := rfl
      rw [e2] at this
      exact this
    obtain ⟨c₂, i₂, len₂, hc₂, hd₂, hf₂⟩ := hend
    have hW' : U.WarmedH s₂.vm := hW₂
    have hcc : c₂ = c := by
      have h1 : s₂.code? g.method = U.code? g.method := by
        rw [State.code?_eq, State.code?_eq, hW'.alike.method?]
      exact Option.some.inj (hc₂.symm.trans (h1.trans h.code))
    subst hcc
    have hlen : len₂ = len := by rw [hdg] at hd₂; cases hd₂; rfl
    subst hlen
    have hs₂ : s₂ = (({ U with heap := s₂.heap, slotsUsed := s₂.slotsUsed } : State).setVm s₂.vm).setTop { g with pc := g.pc + len₂, stack := v.toList ++ g.stack } := by
      refine e3.trans ?_
      rw [hf₂, State.calling_eq h.top, State.setFrames_setFrames, State.setTop_of_frames _ hr', hr]
      rfl
    have hsame : U.sameButNew ({ U with heap := s₂.heap, slotsUsed := s₂.slotsUsed } : State) L mc ms := by
      refine ⟨?_, q2, q3, q4, q5, q6⟩
      obtain ⟨t, ht, -⟩ := State.frames_cons hr
      show ({ U with heap := s₂.heap, slotsUsed := s₂.slotsUsed } : State) = { U.setFrames U.frames with heap := s₂.heap, slotsUsed := s₂.slotsUsed }
      rw [State.setFrames_self ht]
    subst hg
    refine Or.inl ⟨v, ⟨(({ U with heap := s₂.heap, slotsUsed := s₂.slotsUsed } : State).setVm s₂.vm), Ls ++ L, c0 + mc, s0 + ms⟩,
      ⟨X.admits, X.cas, X.clock, X.frames, X.room, X.hears, X.method, X.code, (X.here.setHeapUsed s₂.heap s₂.slotsUsed).setVm hW'.alike, X.tail, State.WarmedH.trans X.warmed hW', X.limits, X.bytes, X.same.trans (hsame.setVm s.vm)⟩,
      ⟨g, mk, s₂, L, rfl, rfl, hqc, rfl, hL, rfl, rfl⟩, ?_⟩
    show Steps p.tables e below _ ((({ U with heap := s₂.heap, slotsUsed := s₂.slotsUsed } : State).setVm s₂.vm).setTop { g with pc := g.pc + len₂, stack := v.toList ++ g.stack })
    rw [← hs₂]
    exact hsteps
  · obtain ⟨e2, q2, q3, q4, q5, q6⟩ := id hsm
    have e3 : s₂ = ({ (U.calling g mk a).setFrames s₂.frames with heap := s₂.heap, slotsUsed := s₂.slotsUsed } : State).setVm s₂.vm := by
      have : s₂ = ({ s₂ with vm := (U.calling g mk a).vm } : State).setVm s₂.vm := rfl
      rw [e2] at this
      exact this
    have hf₂ : s₂.frames = .throwing q :: .java g :: U.frames.tail := hend
    have hW' : U.WarmedH s₂.vm := hW₂
    have hs₂ : s₂ = ((({ U with heap := s₂.heap, slotsUsed := s₂.slotsUsed } : State).setVm s₂.vm).setTop g).pushFrame (.throwing q) := by
      refine e3.trans ?_
      rw [hf₂, State.calling_eq h.top, State.setFrames_setFrames, State.pushFrame, State.frames_setTop _ hr', State.setTop_of_frames _ hr', State.setFrames_setFrames, hr]
      rfl
    have hsame : U.sameButNew ({ U with heap := s₂.heap, slotsUsed := s₂.slotsUsed } : State) L mc ms := by
      refine ⟨?_, q2, q3, q4, q5, q6⟩
      obtain ⟨t, ht, -⟩ := State.frames_cons hr
      show ({ U with heap := s₂.heap, slotsUsed := s₂.slotsUsed } : State) = { U.setFrames U.frames with heap := s₂.heap, slotsUsed := s₂.slotsUsed }
      rw [State.setFrames_self ht]
    subst hg
    refine Or.inr ⟨q, ⟨(({ U with heap := s₂.heap, slotsUsed := s₂.slotsUsed } : State).setVm s₂.vm), Ls ++ L, c0 + mc, s0 + ms⟩,
      ⟨X.admits, X.cas, X.clock, X.frames, X.room, X.hears, X.method, X.code, (X.here.setHeapUsed s₂.heap s₂.slotsUsed).setVm hW'.alike, X.tail, State.WarmedH.trans X.warmed hW', X.limits, X.bytes, X.same.trans (hsame.setVm s.vm)⟩,
      ⟨g, mk, s₂, L, E, ce, rfl, rfl, hx, hce, hcv, hcl, rfl, hL, rfl, rfl⟩, ?_⟩
    show Steps p.tables e below _ (((({ U with heap := s₂.heap, slotsUsed := s₂.slotsUsed } : State).setVm s₂.vm).setTop g).pushFrame (.throwing q))
    rw [← hs₂]
    exact hsteps
end Payer
section Calls
variable {p : Program} {l : Launch} {e : Env} {R : Room} {s : State} {m : MethodId} {args : Array Value} {below : List Frame} {meth : Method} {c : Code} {T : State} {locs : List Loc} {cells slots : Nat}
theorem vx_callV (X : Stand p l e R s m args below meth c T locs cells slots) (hexec : p.tables.exec = Jvm.exec) {own C : String} {index : Nat} {y : MethodName} {bytes : ByteArray} {maxL : Nat} {ret : Option FieldType}
    (hown : s.vm.findClass own = some m.cls) (hlink : (Cond.methodLink own index y).before args s = true) (hinst : (Cond.instanceMethod y).before args s = true) (hsel : (Cond.selects C y y).before args s = true)
    (hcode : (Cond.code y bytes maxL ret).before args s = true) (hy : y.cls ≠ "java/lang/invoke/MethodHandle" ∧ y.cls ≠ "java/lang/invoke/VarHandle")
    {W9 : Nat} {Pre : Pt → Array Value → Prop} {Post : Pt → Array Value → Option Value → Pt → Prop} {PostX : Pt → Array Value → Addr → Pt → Prop} (hK : vx_Back l R p e below s args y 3 W9 Pre Post PostX)
    {b : Addr} {cellB : Cell} (hcell : T.heap[b]? = some cellB) (hobj : cellB.vm.isStatics = false) (hcls : s.vm.findClass C = some cellB.cls)
    {g : JFrame} (hg : g.method = m) (hsize : g.locals.size = c.maxLocals) {argsL rest : List Value} (hlen : ∀ sig, parseMethodDescriptor y.desc = some sig → argsL.length = sig.parameters.length)
    (hstack : g.stack = argsL.reverse ++ .ref b :: rest) (hW : 2 * g.monitorRoom + (rest.map fun v => v.category).sum ≤ W9) (hdg : decode c.code g.pc = .ok (.invokevirtual index, 3))
    (hpre : ∀ vm₁, s.WarmedH vm₁ → Pre ⟨T.setVm vm₁, locs, cells, slots⟩ (Value.ref b :: argsL).toArray) :
    (∃ (v : Option Value) (vm₁ : Vm) (B : Pt), s.WarmedH vm₁ ∧ Stand p l e R s m args below meth c B.U B.locs B.cells B.slots ∧ Post ⟨T.setVm vm₁, locs, cells, slots⟩ (Value.ref b :: argsL).toArray v B ∧
      ∀ target, Steps p.tables e below (B.U.setTop { g with pc := g.pc + 3, stack := v.toList ++ rest }) target → Steps p.tables e below (T.setTop g) target) ∨
    (∃ (q : Addr) (vm₁ : Vm) (B : Pt), s.WarmedH vm₁ ∧ Stand p l e R s m args below meth c B.U B.locs B.cells B.slots ∧ PostX ⟨T.setVm vm₁, locs, cells, slots⟩ (Value.ref b :: argsL).toArray q B ∧
      Steps p.tables e below (T.setTop g) ((B.U.setTop { g with stack := rest }).pushFrame (.throwing q))) := by
  obtain ⟨mk, methM, hnamed, hmethM, hstM, habM⟩ := Cond.instanceMethod_spec hinst
  obtain ⟨methM', cM, hmethM', -, -, -, -, -, -, hsigM⟩ := Cond.code_spec hnamed hcode
  cases hmethM.symm.trans hmethM'
  obtain ⟨c2, r2, m2, q1, q2, q3, q4, kP, hkP, hkPi⟩ := Cond.selects_spec hsel
  cases hcls.symm.trans q1
  cases (State.methodFound?_of_named hnamed hy).symm.trans q2
  cases hnamed.symm.trans q3
  have hselP : selectMethod e.platform s.vm cellB.cls mk = .method mk := by rw [Launch.admits_selectMethod X.admits]; exact q4
  obtain ⟨vm₁, X₁, hstep₁⟩ := X.invokevirtual hexec hown hlink hnamed hmethM hstM hkP hkPi hy (a := b) (cell := cellB) hcell
    (fun z h => by rw [h] at hobj; cases hobj) hselP hmethM habM hkP hkPi (g := g) hg (argsL := argsL) (rest := rest) (hlen _ hsigM) hstack hdg
  rcases hK m meth c ⟨T.setVm vm₁, locs, cells, slots⟩ { g with stack := rest } (.invokevirtual index) mk (Value.ref b :: argsL).toArray X₁ hg hsize hdg hW (X₁.named hnamed) (hpre vm₁ X₁.warmed) with ⟨v, B, X', hpost, hsteps⟩ | ⟨q, B, X', hpost, hsteps⟩
  · exact Or.inl ⟨v, vm₁, B, X₁.warmed, X', hpost, fun target h => hstep₁ _ fun acts => by rw [doInvoke_state]; exact hsteps.trans h⟩
  · exact Or.inr ⟨q, vm₁, B, X₁.warmed, X', hpost, hstep₁ _ fun acts => by rw [doInvoke_state]; exact hsteps⟩
theorem vx_callS (X : Stand p l e R s m args below meth c T locs cells slots) (hexec : p.tables.exec = Jvm.exec) {own : String} {index : Nat} {y : MethodName} {bytes : ByteArray} {maxL : Nat} {ret : Option FieldType}
    (hown : s.vm.findClass own = some m.cls) (hlink : (Cond.methodLink own index y).before args s = true) (hstat : (Cond.static y).before args s = true) (hinit : (Cond.initialized y.cls).before args s = true)
    (hcode : (Cond.code y bytes maxL ret).before args s = true) (hy : y.cls ≠ "java/lang/invoke/MethodHandle" ∧ y.cls ≠ "java/lang/invoke/VarHandle")
    {W9 : Nat} {Pre : Pt → Array Value → Prop} {Post : Pt → Array Value → Option Value → Pt → Prop} {PostX : Pt → Array Value → Addr → Pt → Prop} (hK : vx_Back l R p e below s args y 3 W9 Pre Post PostX)
    {g : JFrame} (hg : g.method = m) (hsize : g.locals.size = c.maxLocals) {argsL rest : List Value} (hlen : ∀ sig, parseMethodDescriptor y.desc = some sig → argsL.length = sig.parameters.length)
    (hstack : g.stack = argsL.reverse ++ rest) (hW : 2 * g.monitorRoom + (rest.map fun v => v.category).sum ≤ W9) (hdg : decode c.code g.pc = .ok (.invokestatic index, 3))
    (hpre : ∀ vm₁, s.WarmedH vm₁ → Pre ⟨T.setVm vm₁, locs, cells, slots⟩ argsL.toArray) :
    (∃ (v : Option Value) (vm₁ : Vm) (B : Pt), s.WarmedH vm₁ ∧ Stand p l e R s m args below meth c B.U B.locs B.cells B.slots ∧ Post ⟨T.setVm vm₁, locs, cells, slots⟩ argsL.toArray v B ∧
      ∀ target, Steps p.tables e below (B.U.setTop { g with pc := g.pc + 3, stack := v.toList ++ rest }) target → Steps p.tables e below (T.setTop g) target) ∨
    (∃ (q : Addr) (vm₁ : Vm) (B : Pt), s.WarmedH vm₁ ∧ Stand p l e R s m args below meth c B.U B.locs B.cells B.slots ∧ PostX ⟨T.setVm vm₁, locs, cells, slots⟩ argsL.toArray q B ∧
      Steps p.tables e below (T.setTop g) ((B.U.setTop { g with stack := rest }).pushFrame (.throwing q))) := by
  obtain ⟨mk, hnamed⟩ := Cond.code_named hcode
  obtain ⟨methM, cM, hmethM, -, -, -, -, -, -, hsigM⟩ := Cond.code_spec hnamed hcode
  have hstatic : methM.isStatic = true := Cond.static_spec hnamed hmethM hstat
  obtain ⟨kP, hkP, -⟩ := className_of_methodNamed hnamed
  have hinitP : kP.init = .initialized := Cond.initialized_spec (findClass_of_methodNamed hnamed) hkP hinit
  obtain ⟨vm₁, X₁, hstep₁⟩ := X.invokestatic hexec hown hlink hnamed hmethM hstatic hkP hinitP hy (g := g) hg (argsL := argsL) (rest := rest) (hlen _ hsigM) hstack hdg
  rcases hK m meth c ⟨T.setVm vm₁, locs, cells, slots⟩ { g with stack := rest } (.invokestatic index) mk argsL.toArray X₁ hg hsize hdg hW (X₁.named hnamed) (hpre vm₁ X₁.warmed) with ⟨v, B, X', hpost, hsteps⟩ | ⟨q, B, X', hpost, hsteps⟩
  · exact Or.inl ⟨v, vm₁, B, X₁.warmed, X', hpost, fun target h => hstep₁ _ fun acts => by rw [doInvoke_state]; exact hsteps.trans h⟩
  · exact Or.inr ⟨q, vm₁, B, X₁.warmed, X', hpost, hstep₁ _ fun acts => by rw [doInvoke_state]; exact hsteps⟩
end Calls
theorem vx_cls {s : State} {T : State} {vm₁ : Vm} {E : String} {k : ClassId} (hW : s.WarmedH vm₁) (h : (T.setVm vm₁).vm.findClass E = some k) : s.vm.findClass E = some k := by
  have h1 : vm₁.findClass E = some k := h
  rw [hW.alike.findClass] at h1
  exact h1
/-- the method's frame g, with q thrown over it -/
def vx_W (p : Program) (l : Launch) (e : Env) (R : Room) (s : State) (m : MethodId) (args : Array Value) (below : List Frame) (meth : Method) (c : Code) (H : Heap) (locs : List Loc) (cells slots : Nat) (Q : State → Prop) (g : JFrame) (q : Addr) : Prop :=
  ∀ T : State, T.heap = H → Stand p l e R s m args below meth c T locs cells slots → ∃ t, Steps p.tables e below ((T.setTop g).pushFrame (.throwing q)) t ∧ Q t
def vx_Run (p : Program) (l : Launch) (e : Env) (R : Room) (s : State) (m : MethodId) (args : Array Value) (below : List Frame) (meth : Method) (c : Code) (H : Heap) (locs : List Loc) (cells slots mc ms : Nat) (g : JFrame) (rest : List Value) (Qa : State → Outcome → State → Prop) (XC : String → State → State → Prop) (free : Addr → Prop) : Prop :=
  ∀ T : State, T.heap = H → Stand p l e R s m args below meth c T locs cells slots →
    (∃ (v : Option Value) (st₀ t T' : State) (L : List Loc), st₀.heap = H ∧ Stand p l e R s m args below meth c T' (locs ++ L) (cells + mc) (slots + ms) ∧ (∀ q ∈ L, free q.base) ∧ T'.heap = t.heap ∧ T'.vm = t.vm ∧ Qa st₀ (.returned v) t ∧
      Goes p e below T g T' { g with pc := g.pc + 3, stack := v.toList ++ rest }) ∨
    (∃ (q : Addr) (st₀ t T' : State) (L : List Loc) (E : String) (ce : Cell), st₀.heap = H ∧ Stand p l e R s m args below meth c T' (locs ++ L) (cells + mc) (slots + ms) ∧ (∀ z ∈ L, free z.base) ∧ T'.heap = t.heap ∧ T'.vm = t.vm ∧ XC E st₀ t ∧ t.heap[q]? = some ce ∧ ce.vm = .none ∧ s.vm.findClass E = some ce.cls ∧
      Steps p.tables e below (T.setTop g) ((T'.setTop { g with stack := rest }).pushFrame (.throwing q)))
def vx_X {S : Type} (px : S → Prop) (B : String → S → State → Prop) (A : Nat → Prop) : String → State → State → Prop := fun E st t => ∃ u : S, px u ∧ B E u t ∧ va_F A st t
section Runs
variable {p : Program} {l : Launch} {e : Env} {R : Room} {s : State} {m : MethodId} {args : Array Value} {below : List Frame} {meth : Method} {c : Code} {H : Heap} {locs : List Loc} {cells slots : Nat}
variable {y : MethodName} {bytes cc : ByteArray} {maxL nL mc ms n index : Nat} {ret : Option FieldType} {ws : List Cond} {rm : Room} {Pc : Array Value → State → Prop} {Qc : Array Value → State → Outcome → State → Prop} {XC : String → State → State → Prop} {free : Addr → Prop} {Ts : List Cond} {own C : String} {b : Addr} {As rest : List Value} {g : JFrame}
theorem vx_callBack (cb : CallB R s args own index y bytes maxL ret ws rm mc ms n) (hM : vx_Met l y ws rm Pc Qc XC mc ms free) (hbl : FrameBlind Pc) : vx_Back l R p e below s args y 3 8 (PreOf R mc ms Pc) (PostOf Qc mc ms free) (vx_Post XC mc ms free) := by
  obtain ⟨hrc, hrs, hfr, hlo, hws, hcw, -, hini, -⟩ := cb
  exact vx_back (bytes := bytes) (maxL := maxL) (ret := ret) hM hbl hrc hrs hfr hlo hws hcw (fun a' U hW => word_at hW (Or.inl (by first | rfl | simp [Cond.onTables, Cond.keeps, Cond.steady])) hini)
theorem vx_runV (S : CallFix p m c cc nL s args Ts own) (hM : vx_Met l y ws rm Pc Qc XC mc ms free) (cw : CallW R s args own C index y bytes maxL ret ws rm mc ms n) (hp : PreV s H C b Pc As)
    (hg : g.method = m) (hn : As.length = n) (hsize : g.locals.size = nL) (hstack : g.stack = As.reverse ++ .ref b :: rest) (hW : 2 * g.monitorRoom + (rest.map fun v => v.category).sum ≤ 8) (hdg : decode cc g.pc = .ok (.invokevirtual index, 3)) (hf : cells + mc ≤ R.cells ∧ slots + ms ≤ R.slots) :
    vx_Run p l e R s m args below meth c H locs cells slots mc ms g rest (Qc (Value.ref b :: As).toArray) XC free := by
  have hK : vx_Back l R p e below s args y 3 8 (PreOf R mc ms Pc) (PostOf Qc mc ms free) (vx_Post XC mc ms free) := vx_callBack cw.1 hM hp.1
  obtain ⟨⟨-, -, -, -, -, -, hcode, -, hy, hlen, hl⟩, hin, hse⟩ := cw
  obtain ⟨hx, hb, hml, ho, -⟩ := S
  obtain ⟨-, ⟨cellB, hcB, hoB, hclB⟩, hPc⟩ := hp
  intro T hT X
  rcases vx_callV X hx (C := C) (bytes := bytes) (maxL := maxL) (ret := ret) ho hl hin hse hcode hy hK (by rw [hT]; exact hcB) hoB hclB hg (hsize.trans hml.symm) (argsL := As) (rest := rest) (fun sig h => hn.trans (hlen sig h)) hstack hW (by rw [hb]; exact hdg)
    (fun vm₁ hW₁ => ⟨hf.1, hf.2, hPc (T.setVm vm₁) hT hW₁⟩) with ⟨v, vm₁, ⟨U', l2, c2, s2⟩, hW₁, X', ⟨g', mk, t, L, e1, e2, hq, h1, hL, h2, h3⟩, st⟩ | ⟨q, vm₁, ⟨U', l2, c2, s2⟩, hW₁, X', ⟨g', mk, t, L, E, ce, e1, e2, hq, hce, hcv, hcl, h1, hL, h2, h3⟩, st⟩
  · dsimp only [Pt.U, Pt.locs, Pt.cells, Pt.slots] at X' e1 e2 h1 h2 h3 st
    subst h1; subst h2; subst h3
    exact Or.inl ⟨v, (T.setVm vm₁).calling g' mk (Value.ref b :: As).toArray, t, U', L, hT, X', hL, e1, e2, hq, st⟩
  · dsimp only [Pt.U, Pt.locs, Pt.cells, Pt.slots] at X' e1 e2 h1 h2 h3 st hcl
    subst h1; subst h2; subst h3
    exact Or.inr ⟨q, (T.setVm vm₁).calling g' mk (Value.ref b :: As).toArray, t, U', L, E, ce, hT, X', hL, e1, e2, hq, hce, hcv, vx_cls hW₁ hcl, st⟩
theorem vx_runS (S : CallFix p m c cc nL s args Ts own) (hM : vx_Met l y ws rm Pc Qc XC mc ms free) (cw : CallB R s args own index y bytes maxL ret ws rm mc ms n ∧ (Cond.static y).before args s = true) (hp : PreS s H Pc As)
    (hg : g.method = m) (hn : As.length = n) (hsize : g.locals.size = nL) (hstack : g.stack = As.reverse ++ rest) (hW : 2 * g.monitorRoom + (rest.map fun v => v.category).sum ≤ 8) (hdg : decode cc g.pc = .ok (.invokestatic index, 3)) (hf : cells + mc ≤ R.cells ∧ slots + ms ≤ R.slots) :
    vx_Run p l e R s m args below meth c H locs cells slots mc ms g rest (Qc As.toArray) XC free := by
  have hK : vx_Back l R p e below s args y 3 8 (PreOf R mc ms Pc) (PostOf Qc mc ms free) (vx_Post XC mc ms free) := vx_callBack cw.1 hM hp.1
  obtain ⟨⟨-, -, -, -, -, -, hcode, hini, hy, hlen, hl⟩, hstt⟩ := cw
  obtain ⟨hx, hb, hml, ho, -⟩ := S
  intro T hT X
  rcases vx_callS X hx (bytes := bytes) (maxL := maxL) (ret := ret) ho hl hstt hini hcode hy hK hg (hsize.trans hml.symm) (argsL := As) (rest := rest) (fun sig h => hn.trans (hlen sig h)) hstack hW (by rw [hb]; exact hdg)
    (fun vm₁ hW₁ => ⟨hf.1, hf.2, hp.2 (T.setVm vm₁) hT hW₁⟩) with ⟨v, vm₁, ⟨U', l2, c2, s2⟩, hW₁, X', ⟨g', mk, t, L, e1, e2, hq, h1, hL, h2, h3⟩, st⟩ | ⟨q, vm₁, ⟨U', l2, c2, s2⟩, hW₁, X', ⟨g', mk, t, L, E, ce, e1, e2, hq, hce, hcv, hcl, h1, hL, h2, h3⟩, st⟩
  · dsimp only [Pt.U, Pt.locs, Pt.cells, Pt.slots] at X' e1 e2 h1 h2 h3 st
    subst h1; subst h2; subst h3
    exact Or.inl ⟨v, (T.setVm vm₁).calling g' mk As.toArray, t, U', L, hT, X', hL, e1, e2, hq, st⟩
  · dsimp only [Pt.U, Pt.locs, Pt.cells, Pt.slots] at X' e1 e2 h1 h2 h3 st hcl
    subst h1; subst h2; subst h3
    exact Or.inr ⟨q, (T.setVm vm₁).calling g' mk As.toArray, t, U', L, E, ce, hT, X', hL, e1, e2, hq, hce, hcv, vx_cls hW₁ hcl, st⟩
end Runs
section Rows
variable {p : Program} {l : Launch} {e : Env} {R : Room} {s : State} {m : MethodId} {args : Array Value} {below : List Frame} {meth : Method} {c : Code} {H : Heap} {locs : List Loc} {cells slots : Nat} {Q : State → Prop}
variable {mc ms : Nat} {free : Addr → Prop} {A0 A1 : Nat → Prop} {H0 : Heap} {a : Array Value} {pc : Nat} {ls : Array Slot} {st0 rest : List Value}
theorem vx_keep {st₀ t T' : State} {L : List Loc} (h0 : st₀.heap = H) (e1 : T'.heap = t.heap) (hS : va_S A0 H0 H locs) (hA : ∀ q, q < H.size → A1 q → A0 q) (hf : ∀ q, free q → A0 q) (hL : ∀ q ∈ L, free q.base) (hF : va_F A1 st₀ t) :
    H.size ≤ T'.heap.size ∧ (∀ q : Nat, q < H.size → ¬ A1 q → T'.heap[q]? = H[q]?) ∧ va_S A0 H0 T'.heap (locs ++ L) := by
  obtain ⟨hz, hk⟩ := hF
  rw [h0] at hz hk
  exact ⟨by rw [e1]; exact hz, fun q h1 h2 => by rw [e1]; exact hk q h1 h2,
    ⟨Nat.le_trans hS.1 (by rw [e1]; exact hz), fun q h1 h2 => by rw [e1, hk q (Nat.lt_of_lt_of_le h1 hS.1) (fun z => h2 (hA q (Nat.lt_of_lt_of_le h1 hS.1) z))]; exact hS.2.1 q h1 h2, fun q hq => by
      rcases List.mem_append.mp hq with h | h
      · exact hS.2.2 q h
      · exact hf _ (hL q h)⟩⟩
theorem vx_calli {S SX : Type} {post : Int32 → S → Prop} {px : SX → Prop} {B : S → State → Prop} {BX : String → SX → State → Prop} {AX : Nat → Prop} (hr : vx_Run p l e R s m args below meth c H locs cells slots mc ms (F0 m pc ls st0) rest (va_Qi post B A1 a) (vx_X px BX AX) free) (hS : va_S A0 H0 H locs) (hA : ∀ q, q < H.size → A1 q → A0 q) (hf : ∀ q, free q → A0 q) (hAX : ∀ q, q < H.size → AX q → A0 q)
    (kx : ∀ (E : String) (ce : Cell) (q9 : Addr) (u : SX) (t : State) (H1 : Heap) (locs1 : List Loc), t.heap = H1 → s.vm.Alike t.vm → px u → BX E u t → H.size ≤ H1.size → (∀ q : Nat, q < H.size → ¬ AX q → H1[q]? = H[q]?) → va_S A0 H0 H1 locs1 → H1[q9]? = some ce → ce.vm = .none → s.vm.findClass E = some ce.cls → vx_W p l e R s m args below meth c H1 locs1 (cells + mc) (slots + ms) Q (F0 m pc ls rest) q9)
    (kk : ∀ (r : Int32) (u : S) (t : State) (H1 : Heap) (locs1 : List Loc), t.heap = H1 → s.vm.Alike t.vm → post r u → B u t → H.size ≤ H1.size → (∀ q : Nat, q < H.size → ¬ A1 q → H1[q]? = H[q]?) → va_S A0 H0 H1 locs1 → W p l e R s m args below meth c H1 locs1 (cells + mc) (slots + ms) Q (F0 m (pc + 3) ls (.int r :: rest))) : W p l e R s m args below meth c H locs cells slots Q (F0 m pc ls st0) := by
  intro T hT X
  rcases hr T hT X with ⟨v, st₀, t, T', L, h0, X', hL, e1, e2, ⟨⟨r, u, hv, hp, hb⟩, hF⟩, st⟩ | ⟨q, st₀, t, T', L, E, ce, h0, X', hL, e1, e2, ⟨u, hp, hb, hF⟩, hce, hcv, hcl, st⟩
  · cases hv
    obtain ⟨k1, k2, k3⟩ := vx_keep h0 e1 hS hA hf hL hF
    obtain ⟨t2, a1, b1⟩ := kk r u t T'.heap (locs ++ L) e1.symm (by rw [← e2]; exact X'.warmed.alike) hp hb k1 k2 k3 T' rfl X'
    exact ⟨t2, st t2 a1, b1⟩
  · obtain ⟨k1, k2, k3⟩ := vx_keep h0 e1 hS hAX hf hL hF
    obtain ⟨t2, a1, b1⟩ := kx E ce q u t T'.heap (locs ++ L) e1.symm (by rw [← e2]; exact X'.warmed.alike) hp hb k1 k2 k3 (by rw [e1]; exact hce) hcv hcl T' rfl X'
    exact ⟨t2, st.trans a1, b1⟩
theorem vx_calll {S SX : Type} {post : Int64 → S → Prop} {px : SX → Prop} {B : S → State → Prop} {BX : String → SX → State → Prop} {AX : Nat → Prop} (hr : vx_Run p l e R s m args below meth c H locs cells slots mc ms (F0 m pc ls st0) rest (va_Ql post B A1 a) (vx_X px BX AX) free) (hS : va_S A0 H0 H locs) (hA : ∀ q, q < H.size → A1 q → A0 q) (hf : ∀ q, free q → A0 q) (hAX : ∀ q, q < H.size → AX q → A0 q)
    (kx : ∀ (E : String) (ce : Cell) (q9 : Addr) (u : SX) (t : State) (H1 : Heap) (locs1 : List Loc), t.heap = H1 → s.vm.Alike t.vm → px u → BX E u t → H.size ≤ H1.size → (∀ q : Nat, q < H.size → ¬ AX q → H1[q]? = H[q]?) → va_S A0 H0 H1 locs1 → H1[q9]? = some ce → ce.vm = .none → s.vm.findClass E = some ce.cls → vx_W p l e R s m args below meth c H1 locs1 (cells + mc) (slots + ms) Q (F0 m pc ls rest) q9)
    (kk : ∀ (r : Int64) (u : S) (t : State) (H1 : Heap) (locs1 : List Loc), t.heap = H1 → s.vm.Alike t.vm → post r u → B u t → H.size ≤ H1.size → (∀ q : Nat, q < H.size → ¬ A1 q → H1[q]? = H[q]?) → va_S A0 H0 H1 locs1 → W p l e R s m args below meth c H1 locs1 (cells + mc) (slots + ms) Q (F0 m (pc + 3) ls (.long r :: rest))) : W p l e R s m args below meth c H locs cells slots Q (F0 m pc ls st0) := by
  intro T hT X
  rcases hr T hT X with ⟨v, st₀, t, T', L, h0, X', hL, e1, e2, ⟨⟨r, u, hv, hp, hb⟩, hF⟩, st⟩ | ⟨q, st₀, t, T', L, E, ce, h0, X', hL, e1, e2, ⟨u, hp, hb, hF⟩, hce, hcv, hcl, st⟩
  · cases hv
    obtain ⟨k1, k2, k3⟩ := vx_keep h0 e1 hS hA hf hL hF
    obtain ⟨t2, a1, b1⟩ := kk r u t T'.heap (locs ++ L) e1.symm (by rw [← e2]; exact X'.warmed.alike) hp hb k1 k2 k3 T' rfl X'
    exact ⟨t2, st t2 a1, b1⟩
  · obtain ⟨k1, k2, k3⟩ := vx_keep h0 e1 hS hAX hf hL hF
    obtain ⟨t2, a1, b1⟩ := kx E ce q u t T'.heap (locs ++ L) e1.symm (by rw [← e2]; exact X'.warmed.alike) hp hb k1 k2 k3 (by rw [e1]; exact hce) hcv hcl T' rfl X'
    exact ⟨t2, st.trans a1, b1⟩
theorem vx_callf {S SX : Type} {post : UInt32 → S → Prop} {px : SX → Prop} {B : S → State → Prop} {BX : String → SX → State → Prop} {AX : Nat → Prop} (hr : vx_Run p l e R s m args below meth c H locs cells slots mc ms (F0 m pc ls st0) rest (va_Qf post B A1 a) (vx_X px BX AX) free) (hS : va_S A0 H0 H locs) (hA : ∀ q, q < H.size → A1 q → A0 q) (hf : ∀ q, free q → A0 q) (hAX : ∀ q, q < H.size → AX q → A0 q)
    (kx : ∀ (E : String) (ce : Cell) (q9 : Addr) (u : SX) (t : State) (H1 : Heap) (locs1 : List Loc), t.heap = H1 → s.vm.Alike t.vm → px u → BX E u t → H.size ≤ H1.size → (∀ q : Nat, q < H.size → ¬ AX q → H1[q]? = H[q]?) → va_S A0 H0 H1 locs1 → H1[q9]? = some ce → ce.vm = .none → s.vm.findClass E = some ce.cls → vx_W p l e R s m args below meth c H1 locs1 (cells + mc) (slots + ms) Q (F0 m pc ls rest) q9)
    (kk : ∀ (r : UInt32) (u : S) (t : State) (H1 : Heap) (locs1 : List Loc), t.heap = H1 → s.vm.Alike t.vm → post r u → B u t → H.size ≤ H1.size → (∀ q : Nat, q < H.size → ¬ A1 q → H1[q]? = H[q]?) → va_S A0 H0 H1 locs1 → W p l e R s m args below meth c H1 locs1 (cells + mc) (slots + ms) Q (F0 m (pc + 3) ls (.float r :: rest))) : W p l e R s m args below meth c H locs cells slots Q (F0 m pc ls st0) := by
  intro T hT X
  rcases hr T hT X with ⟨v, st₀, t, T', L, h0, X', hL, e1, e2, ⟨⟨r, u, hv, hp, hb⟩, hF⟩, st⟩ | ⟨q, st₀, t, T', L, E, ce, h0, X', hL, e1, e2, ⟨u, hp, hb, hF⟩, hce, hcv, hcl, st⟩
  · cases hv
    obtain ⟨k1, k2, k3⟩ := vx_keep h0 e1 hS hA hf hL hF
    obtain ⟨t2, a1, b1⟩ := kk r u t T'.heap (locs ++ L) e1.symm (by rw [← e2]; exact X'.warmed.alike) hp hb k1 k2 k3 T' rfl X'
    exact ⟨t2, st t2 a1, b1⟩
  · obtain ⟨k1, k2, k3⟩ := vx_keep h0 e1 hS hAX hf hL hF
    obtain ⟨t2, a1, b1⟩ := kx E ce q u t T'.heap (locs ++ L) e1.symm (by rw [← e2]; exact X'.warmed.alike) hp hb k1 k2 k3 (by rw [e1]; exact hce) hcv hcl T' rfl X'
    exact ⟨t2, st.trans a1, b1⟩
theorem vx_calld {S SX : Type} {post : UInt64 → S → Prop} {px : SX → Prop} {B : S → State → Prop} {BX : String → SX → State → Prop} {AX : Nat → Prop} (hr : vx_Run p l e R s m args below meth c H locs cells slots mc ms (F0 m pc ls st0) rest (va_Qd post B A1 a) (vx_X px BX AX) free) (hS : va_S A0 H0 H locs) (hA : ∀ q, q < H.size → A1 q → A0 q) (hf : ∀ q, free q → A0 q) (hAX : ∀ q, q < H.size → AX q → A0 q)
    (kx : ∀ (E : String) (ce : Cell) (q9 : Addr) (u : SX) (t : State) (H1 : Heap) (locs1 : List Loc), t.heap = H1 → s.vm.Alike t.vm → px u → BX E u t → H.size ≤ H1.size → (∀ q : Nat, q < H.size → ¬ AX q → H1[q]? = H[q]?) → va_S A0 H0 H1 locs1 → H1[q9]? = some ce → ce.vm = .none → s.vm.findClass E = some ce.cls → vx_W p l e R s m args below meth c H1 locs1 (cells + mc) (slots + ms) Q (F0 m pc ls rest) q9)
    (kk : ∀ (r : UInt64) (u : S) (t : State) (H1 : Heap) (locs1 : List Loc), t.heap = H1 → s.vm.Alike t.vm → post r u → B u t → H.size ≤ H1.size → (∀ q : Nat, q < H.size → ¬ A1 q → H1[q]? = H[q]?) → va_S A0 H0 H1 locs1 → W p l e R s m args below meth c H1 locs1 (cells + mc) (slots + ms) Q (F0 m (pc + 3) ls (.double r :: rest))) : W p l e R s m args below meth c H locs cells slots Q (F0 m pc ls st0) := by
  intro T hT X
  rcases hr T hT X with ⟨v, st₀, t, T', L, h0, X', hL, e1, e2, ⟨⟨r, u, hv, hp, hb⟩, hF⟩, st⟩ | ⟨q, st₀, t, T', L, E, ce, h0, X', hL, e1, e2, ⟨u, hp, hb, hF⟩, hce, hcv, hcl, st⟩
  · cases hv
    obtain ⟨k1, k2, k3⟩ := vx_keep h0 e1 hS hA hf hL hF
    obtain ⟨t2, a1, b1⟩ := kk r u t T'.heap (locs ++ L) e1.symm (by rw [← e2]; exact X'.warmed.alike) hp hb k1 k2 k3 T' rfl X'
    exact ⟨t2, st t2 a1, b1⟩
  · obtain ⟨k1, k2, k3⟩ := vx_keep h0 e1 hS hAX hf hL hF
    obtain ⟨t2, a1, b1⟩ := kx E ce q u t T'.heap (locs ++ L) e1.symm (by rw [← e2]; exact X'.warmed.alike) hp hb k1 k2 k3 (by rw [e1]; exact hce) hcv hcl T' rfl X'
    exact ⟨t2, st.trans a1, b1⟩
theorem vx_callv {S SX : Type} {post : S → Prop} {px : SX → Prop} {B : S → State → Prop} {BX : String → SX → State → Prop} {AX : Nat → Prop} (hr : vx_Run p l e R s m args below meth c H locs cells slots mc ms (F0 m pc ls st0) rest (va_Qv post B A1 a) (vx_X px BX AX) free) (hS : va_S A0 H0 H locs) (hA : ∀ q, q < H.size → A1 q → A0 q) (hf : ∀ q, free q → A0 q) (hAX : ∀ q, q < H.size → AX q → A0 q)
    (kx : ∀ (E : String) (ce : Cell) (q9 : Addr) (u : SX) (t : State) (H1 : Heap) (locs1 : List Loc), t.heap = H1 → s.vm.Alike t.vm → px u → BX E u t → H.size ≤ H1.size → (∀ q : Nat, q < H.size → ¬ AX q → H1[q]? = H[q]?) → va_S A0 H0 H1 locs1 → H1[q9]? = some ce → ce.vm = .none → s.vm.findClass E = some ce.cls → vx_W p l e R s m args below meth c H1 locs1 (cells + mc) (slots + ms) Q (F0 m pc ls rest) q9)
    (kk : ∀ (u : S) (t : State) (H1 : Heap) (locs1 : List Loc), t.heap = H1 → s.vm.Alike t.vm → post u → B u t → H.size ≤ H1.size → (∀ q : Nat, q < H.size → ¬ A1 q → H1[q]? = H[q]?) → va_S A0 H0 H1 locs1 → W p l e R s m args below meth c H1 locs1 (cells + mc) (slots + ms) Q (F0 m (pc + 3) ls (rest))) : W p l e R s m args below meth c H locs cells slots Q (F0 m pc ls st0) := by
  intro T hT X
  rcases hr T hT X with ⟨v, st₀, t, T', L, h0, X', hL, e1, e2, ⟨⟨u, hv, hp, hb⟩, hF⟩, st⟩ | ⟨q, st₀, t, T', L, E, ce, h0, X', hL, e1, e2, ⟨u, hp, hb, hF⟩, hce, hcv, hcl, st⟩
  · cases hv
    obtain ⟨k1, k2, k3⟩ := vx_keep h0 e1 hS hA hf hL hF
    obtain ⟨t2, a1, b1⟩ := kk u t T'.heap (locs ++ L) e1.symm (by rw [← e2]; exact X'.warmed.alike) hp hb k1 k2 k3 T' rfl X'
    exact ⟨t2, st t2 a1, b1⟩
  · obtain ⟨k1, k2, k3⟩ := vx_keep h0 e1 hS hAX hf hL hF
    obtain ⟨t2, a1, b1⟩ := kx E ce q u t T'.heap (locs ++ L) e1.symm (by rw [← e2]; exact X'.warmed.alike) hp hb k1 k2 k3 (by rw [e1]; exact hce) hcv hcl T' rfl X'
    exact ⟨t2, st.trans a1, b1⟩
end Rows
section Ends
variable {p : Program} {l : Launch} {e : Env} {R : Room} {s : State} {m : MethodId} {args : Array Value} {below : List Frame} {meth : Method} {c : Code} {H : Heap} {locs : List Loc} {cells slots : Nat} {Q : State → Prop}
variable {mc ms : Nat} {free : Addr → Prop} {A0 A1 : Nat → Prop} {H0 : Heap} {a : Array Value} {ls : Array Slot} {st0 rest : List Value}
variable {Qc : Array Value → State → Outcome → State → Prop} {XC : String → State → State → Prop}
/-- what a body that may throw owes at its end -/
def vx_MQ (below : List Frame) (Qc : Array Value → State → Outcome → State → Prop) (XC : String → State → State → Prop) (a : Array Value) (s : State) (mc ms : Nat) (free : Addr → Prop) : State → Prop := fun t =>
  ∃ o, t.status = .running ∧ Ended t below o ∧ vx_Q Qc XC mc ms free a s o t
theorem vx_ret {g : JFrame} {mc ms : Nat} (k : W p l e R s m args below meth c H locs cells slots (MQ below Qc args s mc ms free) g) : W p l e R s m args below meth c H locs cells slots (vx_MQ below Qc XC args s mc ms free) g := by
  intro T hT X
  obtain ⟨t, a1, o, b1, b2, b3, b4⟩ := k T hT X
  exact ⟨t, a1, o, b1, b2, Or.inl ⟨b3, b4⟩⟩
/-- not caught here: it goes on to the caller -/
theorem vx_widen {g : JFrame} {q : Addr} {k n : Nat} (h1 : cells ≤ k) (h2 : slots ≤ n) (kk : vx_W p l e R s m args below meth c H locs k n Q g q) : vx_W p l e R s m args below meth c H locs cells slots Q g q := fun T hT X => kk T hT (stand_widen X h1 h2)
theorem vx_out {pc : Nat} {E : String} {ce : Cell} {q : Addr} {mc ms : Nat} (hout : ∀ x ∈ c.exceptionTable.toList, covers x pc = false) (hlocks : meth.locks = false) (hcell : H[q]? = some ce) (hv : ce.vm = .none) (hcl : s.vm.findClass E = some ce.cls)
    (hx : ∀ t : State, t.heap = H → s.vm.Alike t.vm → XC E s t) (hf : ∀ z ∈ locs, free z.base) (hc : cells ≤ mc) (hs : slots ≤ ms) :
    vx_W p l e R s m args below meth c H locs cells slots (vx_MQ below Qc XC args s mc ms free) (F0 m pc ls rest) q := by
  intro T hT X
  obtain ⟨st1, hrun, hend, hW, hsm⟩ := X.leaveThrown q (g := F0 m pc ls rest) rfl rfl rfl hout hlocks
  have hcell9 : (T.setFrames (.throwing q :: below)).heap[q]? = some ce := by
    show T.heap[q]? = some ce
    rw [hT]; exact hcell
  exact ⟨_, st1, .threw q, hrun, hend, Or.inr ⟨q, rfl, E, ce, locs, hx _ hT hW.alike, hcell9, hv, hcl, hW, hsm.mono hc hs, hf⟩⟩
theorem vx_frame {U : State} {k n : Nat} (h : s.sameButNew ({ U with vm := s.vm } : State) locs k n) : s.heap.size ≤ U.heap.size ∧ ∀ q : Nat, q < s.heap.size → (∀ z ∈ locs, z.base ≠ q) → U.heap[q]? = s.heap[q]? := by
  obtain ⟨-, h2, -, -, -, h6⟩ := h
  refine ⟨h2, fun q hq hz => ?_⟩
  obtain ⟨c9, e1, e2, e3, e4⟩ := h6 q _ (Array.getElem?_eq_getElem hq)
  have hs : c9.slots = (s.heap[q]).slots := Array.ext_getElem? fun i => e4 i fun hm => hz _ hm rfl
  have h9 : c9 = s.heap[q] := by
    rw [hs] at e2
    exact e2
  have e5 : U.heap[q]? = some c9 := e1
  rw [e5, h9, Array.getElem?_eq_getElem hq]
/-- the words of a throw but the four that speak of the heap -/
def vx_no (w : Cond) : Bool := decide (w ≠ .isRef (.static Bundle.tN "UNASSIGNED_STACK" Bundle.steD)) && decide (w ≠ .isRef (.static Bundle.tN "SUPPRESSED_SENTINEL" Bundle.listD)) && decide (w ≠ .laysStatic Bundle.tN "UNASSIGNED_STACK" Bundle.steD) && decide (w ≠ .laysStatic Bundle.tN "SUPPRESSED_SENTINEL" Bundle.listD)
def vx_at0 (own : String) (ic : Nat) (X : String) (names : List String) : List Cond := (Bundle.ownAtoms0 own ic X names).filter vx_no
def vx_atS (own : String) (ic : Nat) (X : String) (names : List String) : List Cond := (Bundle.ownAtoms own ic X names).filter vx_no
/-- a word that the tables alone decide, or a good one -/
def vx_ot (w : Cond) : Bool := w.onTables || goodWord w
theorem vx_ot_at {args a' : Array Value} {s U : State} {w : Cond} (hW : s.WarmedH U.vm) (hvm : s.vm = U.vm) (hg : vx_ot w = true) (h : w.before args s = true) : w.before a' U = true := by
  simp only [vx_ot, Bool.or_eq_true] at hg
  rcases hg with hg | hg
  · exact va_tabs hg hvm h
  · exact word_at hW (good_of_word hg) h
/-- a list's words: the good ones out of the method's own list, the others by premises of their own -/
theorem vx_hat {args : Array Value} {s : State} {L B : List Cond} (h1 : ∀ w ∈ L.filter goodWord, w.before args s = true) (h2 : ∀ w ∈ L.filter (fun w => !goodWord w), w ∈ B) (h3 : ∀ w ∈ B, w.before args s = true) : ∀ w ∈ L, w.before args s = true := by
  intro w hw
  by_cases g : goodWord w = true
  · exact h1 w (List.mem_filter.mpr ⟨hw, g⟩)
  · refine h3 w (h2 w (List.mem_filter.mpr ⟨hw, ?_⟩))
    show (!goodWord w) = true
    cases hgw : goodWord w
    · rfl
    · exact absurd hgw g
theorem vx_c {args : Array Value} {s : State} {w : Cond} {B : List Cond} (h : w.before args s = true) (t : ∀ w ∈ B, w.before args s = true) : ∀ w' ∈ w :: B, w'.before args s = true := fun w' h' => (List.mem_cons.mp h').elim (fun e => by rw [e]; exact h) (t w')
theorem vx_n {args : Array Value} {s : State} : ∀ w ∈ ([] : List Cond), w.before args s = true := fun _ h => nomatch h
theorem vx_own {args : Array Value} {s : State} {L : List Cond} (h1 : ∀ w ∈ L.filter vx_no, w.before args s = true)
    (hU : (Cond.isRef (.static Bundle.tN "UNASSIGNED_STACK" Bundle.steD)).before args s = true) (hN : (Cond.isRef (.static Bundle.tN "SUPPRESSED_SENTINEL" Bundle.listD)).before args s = true)
    (lU : (Cond.laysStatic Bundle.tN "UNASSIGNED_STACK" Bundle.steD).before args s = true) (lN : (Cond.laysStatic Bundle.tN "SUPPRESSED_SENTINEL" Bundle.listD).before args s = true) : ∀ w ∈ L, w.before args s = true := by
  intro w hw
  by_cases e1 : w = .isRef (.static Bundle.tN "UNASSIGNED_STACK" Bundle.steD)
  · rw [e1]; exact hU
  · by_cases e2 : w = .isRef (.static Bundle.tN "SUPPRESSED_SENTINEL" Bundle.listD)
    · rw [e2]; exact hN
    · by_cases e3 : w = .laysStatic Bundle.tN "UNASSIGNED_STACK" Bundle.steD
      · rw [e3]; exact lU
      · by_cases e4 : w = .laysStatic Bundle.tN "SUPPRESSED_SENTINEL" Bundle.listD
        · rw [e4]; exact lN
        · exact h1 w (List.mem_filter.mpr ⟨hw, by unfold vx_no; rw [decide_eq_true e1, decide_eq_true e2, decide_eq_true e3, decide_eq_true e4]; rfl⟩)
/-- where a static field lies, its class's statics cell in H -/
def vx_L (C n d : String) (A : Nat → Prop) (U : State) (H : Heap) : Prop := ∃ (c : ClassId) (k : Class) (i : Nat) (f : Field) (a : Nat) (cell : Cell), U.vm.findClass C = some c ∧ U.fieldFound? C n d = some (c, k, i, f) ∧ f.isStatic = true ∧ k.statics = some a ∧ H[a]? = some cell ∧ cell.vm.isStatics = true ∧ cell.cls = c ∧ f.slot < cell.slots.size ∧ k.staticTypes[f.slot]? = some f.type ∧ ¬ A a
theorem vx_L.moved {C n d : String} {A : Nat → Prop} {u U : State} {H : Heap} (hvm : u.vm.Alike U.vm) (h : vx_L C n d A u H) : vx_L C n d A U H := by
  obtain ⟨c, k, i, f, a, cell, h1, h2, h3, h4, h5, h6, h7, h8, h9, h10⟩ := h
  obtain ⟨k', hi', he⟩ := State.fieldFound?_setVm hvm h2
  exact ⟨c, k', i, f, a, cell, by rw [hvm.findClass]; exact h1, hi', h3, by rw [he]; exact h4, h5, h6, h7, h8, by rw [he]; exact h9, h10⟩
theorem vx_L.kept {C n d : String} {A : Nat → Prop} {U : State} {H H1 : Heap} (h : vx_L C n d A U H) (hq : ∀ a : Nat, a < H.size → ¬ A a → H1[a]? = H[a]?) : vx_L C n d A U H1 := by
  obtain ⟨c, k, i, f, a, cell, h1, h2, h3, h4, h5, h6, h7, h8, h9, h10⟩ := h
  exact ⟨c, k, i, f, a, cell, h1, h2, h3, h4, by rw [hq a (Array.getElem?_eq_some_iff.mp h5).1 h10]; exact h5, h6, h7, h8, h9, h10⟩
theorem vx_L.narrow {C n d : String} {A B : Nat → Prop} {U : State} {H : Heap} (h : vx_L C n d A U H) (hAB : ∀ q, B q → A q) : vx_L C n d B U H := by
  obtain ⟨c, k, i, f, a, cell, h1, h2, h3, h4, h5, h6, h7, h8, h9, h10⟩ := h
  exact ⟨c, k, i, f, a, cell, h1, h2, h3, h4, h5, h6, h7, h8, h9, fun z => h10 (hAB _ z)⟩
theorem vx_L.word {C n d : String} {A : Nat → Prop} {s : State} {args : Array Value} (h : vx_L C n d A s s.heap) : (Cond.laysStatic C n d).before args s = true := by
  obtain ⟨c, k, i, f, a, cell, h1, h2, h3, h4, h5, h6, h7, h8, h9, -⟩ := h
  show (Cond.laysStatic C n d).holds args s none s [] = true
  exact Cond.laysStatic_of h1 h2 h3 h4 h5 h6 h7 h8 h9
/-- .. and what it holds: null or some reference -/
def vx_Zq (C n d : String) (A : Nat → Prop) (U : State) (H : Heap) : Prop := va_Zq C n d A U H ∧ vx_L C n d A U H
theorem vx_Zq.moved {C n d : String} {A : Nat → Prop} {u U : State} {H : Heap} (hvm : u.vm.Alike U.vm) (h : vx_Zq C n d A u H) : vx_Zq C n d A U H := ⟨va_Zq.moved hvm h.1, vx_L.moved hvm h.2⟩
theorem vx_Zq.kept {C n d : String} {A : Nat → Prop} {U : State} {H H1 : Heap} (h : vx_Zq C n d A U H) (hq : ∀ a : Nat, a < H.size → ¬ A a → H1[a]? = H[a]?) : vx_Zq C n d A U H1 := ⟨va_Zq.kept h.1 hq, vx_L.kept h.2 hq⟩
theorem vx_Zq.narrow {C n d : String} {A B : Nat → Prop} {U : State} {H : Heap} (h : vx_Zq C n d A U H) (hAB : ∀ q, B q → A q) : vx_Zq C n d B U H := ⟨va_Zq.narrow h.1 hAB, vx_L.narrow h.2 hAB⟩
theorem vx_Zqof {args : Array Value} {s : State} {C n d : String} {A : Nat → Prop} (hl : (Cond.laysStatic C n d).before args s = true) (hini : (Cond.initialized C).before args s = true) (h : (Cond.isRef (.static C n d)).before args s = true) (hA : ∀ a : Nat, a < s.heap.size → ¬ A a) : vx_Zq C n d A s s.heap := by
  refine ⟨va_Zqof hl hini h hA, ?_⟩
  obtain ⟨c, k, i, f, a, cell, h1, h2, h3, h4, h5, h6, h7, h8, h9⟩ := Cond.laysStatic_spec hl
  exact ⟨c, k, i, f, a, cell, h1, h2, h3, h4, h5, h6, h7, h8, h9, hA a (Array.getElem?_eq_some_iff.mp h5).1⟩
theorem vx_isRef {C n d : String} {v : Value} {A : Nat → Prop} {s : State} {args : Array Value} (h : va_Z C n d v A s s.heap) (hv : v.isRef = true) : (Cond.isRef (.static C n d)).before args s = true := by
  obtain ⟨cf, kf, fi, f, a, cell, h1, h2, h3, h4, h5, h6, h7, -⟩ := h
  have he : (Term.static C n d).eval args s none [] s = some v := by
    simp [Term.eval, State.fieldNamed?, h1, h2, h4, h5, h6, h7]
  simp only [Cond.before, Cond.holds, Cond.value, he]
  cases v <;> simp_all [Value.isRef]
theorem vx_isRefq {C n d : String} {A : Nat → Prop} {s : State} {args : Array Value} (h : va_Zq C n d A s s.heap) : (Cond.isRef (.static C n d)).before args s = true := by
  rcases h with h | ⟨t, h⟩
  · exact vx_isRef h rfl
  · exact vx_isRef h rfl
/-- the same frame, seen from here: as if the method were called anew in this heap -/
theorem vx_rebase {T : State} (X : Stand p l e R s m args below meth c T locs cells slots) {R' : Room} (hf : R'.frames ≤ R.frames) (hl : R'.locals ≤ R.locals) (hc : cells + R'.cells ≤ R.cells) (hs : slots + R'.slots ≤ R.slots) :
    Stand p l e R' ((T.setVm s.vm).setFrames (.invoking m args :: below)) m args below meth c T [] 0 0 := by
  have htop : (T.setVm s.vm).topJava?.isSome := X.here.top
  have hF : ((T.setVm s.vm).setFrames (.invoking m args :: below)).frames = .invoking m args :: below := State.frames_setFrames _ (State.cur_lt_of_top htop)
  obtain ⟨g₀, hg0⟩ := Option.isSome_iff_exists.mp htop
  obtain ⟨r, hr⟩ := State.topJava?_eq_some.mp hg0
  have hl9 : e.platform.stackLimits (T.setVm s.vm).me = e.platform.stackLimits s.me := X.limits
  have hb9 : (T.setVm s.vm).me.stackBytes = s.me.stackBytes := X.bytes
  refine ⟨X.admits, X.cas, X.clock, hF, ?_, X.hears, X.method, X.code, X.here, X.tail, X.warmed, ?_, ?_, ?_⟩
  · have h := X.room
    have hU : ((T.setVm s.vm).setFrames (.invoking m args :: below)).localsInUse = s.localsInUse := by
      rw [State.localsInUse_invoking hF (meth := meth) (c := c) X.method X.code, State.localsInUse_invoking X.frames X.method X.code]
    simp only [State.hasRoom, Bool.and_eq_true, decide_eq_true_eq] at h ⊢
    obtain ⟨⟨⟨⟨h1, h2, h3, h4, h5, h6⟩, h7⟩, h8⟩, h9⟩ := h
    rw [X.frames, List.length_cons] at h2 h3
    have q1 := X.heapSize
    have q2 := X.used
    simp only [hF, hU, List.length_cons, State.stackLimits_setFrames, State.stackBytes_setFrames, hl9, hb9]
    refine ⟨⟨⟨⟨by omega, by omega, by omega, by omega, by omega, h6⟩, ?_⟩, ?_⟩, X.book⟩
    · show T.heap.size + R'.cells ≤ e.platform.maxCells
      omega
    · show T.slotsUsed + R'.slots ≤ e.platform.maxSlots
      omega
  · rw [State.stackLimits_setFrames]; rfl
  · rw [State.stackBytes_setFrames]; rfl
  · refine ⟨?_, Nat.le_refl _, Nat.le_refl _, ?_, ?_, fun a c9 h9 => ⟨c9, h9, rfl, rfl, fun _ _ => rfl⟩⟩
    · obtain ⟨t, ht, -⟩ := State.frames_cons hr
      show T.setVm s.vm = { ((T.setVm s.vm).setFrames (.invoking m args :: below)).setFrames (T.setVm s.vm).frames with heap := T.heap, slotsUsed := T.slotsUsed }
      rw [State.setFrames_setFrames, State.setFrames_self ht]
      rfl
    · show T.slotsUsed = T.slotsUsed + ((T.heap.toList.drop T.heap.size).map (·.slots.size)).sum
      rw [List.drop_eq_nil_of_le (Nat.le_of_eq Array.length_toList)]
      rfl
    · show ((T.heap.toList.drop T.heap.size).map (·.slots.size)).sum ≤ 0
      rw [List.drop_eq_nil_of_le (Nat.le_of_eq Array.length_toList)]
      exact Nat.le_refl _
/-- 'throw new E()': new; dup; invokespecial; athrow -/
theorem vx_throw0 {cc : ByteArray} {pc : Nat} (hexec : p.tables.exec = Jvm.exec) (hb : c.code = cc) (hl : l.stackTraces = false) {own cls : String} {names : List String} {ik ic mc ms : Nat} {A : Nat → Prop}
    (hown : s.vm.findClass own = some m.cls) (hcls : Bundle.fit cls = true) (hnames : ∀ n ∈ names, Bundle.fit n = true)
    (hk : (Cond.classLink own ik cls).before args s = true) (hini : (Cond.initialized cls).before args s = true) (hat : ∀ w ∈ vx_at0 own ic cls names, w.before args s = true)
    (hgood : ∀ w ∈ Cond.classLink own ik cls :: Cond.initialized cls :: vx_at0 own ic cls names, vx_ot w = true)
    (hU : vx_Zq Bundle.tN "UNASSIGNED_STACK" Bundle.steD A s s.heap) (hN : vx_Zq Bundle.tN "SUPPRESSED_SENTINEL" Bundle.listD A s s.heap) (hS : va_S A s.heap H locs) (hsize : ls.size = c.maxLocals)
    (d0 : decode cc pc = .ok (.new ik, 3)) (d3 : decode cc (pc + 3) = .ok (.dup, 1)) (d4 : decode cc (pc + 4) = .ok (.invokespecial ic, 3)) (d7 : decode cc (pc + 7) = .ok (.athrow, 1))
    (hout : ∀ x ∈ c.exceptionTable.toList, covers x (pc + 7) = false)
    (hRframes : names.length + 3 < R.frames) (hRlocals : (rest.map fun v => v.category).sum + (13 * (names.length + 1) + 42) ≤ R.locals) (hRcells : cells + 1 ≤ R.cells) (hRslots : slots + 6 ≤ R.slots) (hlocks : meth.locks = false)
    (hx : ∀ t : State, s.vm.Alike t.vm → H.size ≤ t.heap.size → (∀ q : Nat, q < H.size → t.heap[q]? = H[q]?) → XC cls s t)
    (hf : ∀ z ∈ locs, free z.base) (hc : cells + 1 ≤ mc) (hs : slots + 6 ≤ ms) :
    W p l e R s m args below meth c H locs cells slots (vx_MQ below Qc XC args s mc ms free) (F0 m pc ls rest) := by
  intro T hT X
  have htr : e.platform.stackTraces = false := (show e.platform.stackTraces = l.stackTraces by rw [X.admits.platform]).trans hl
  have Y := vx_rebase X (R' := { frames := R.frames, locals := R.locals, cells := 1, slots := 6 }) (Nat.le_refl _) (Nat.le_refl _) hRcells hRslots
  obtain ⟨s', hA⟩ : ∃ z, z = (T.setVm s.vm).setFrames (.invoking m args :: below) := ⟨_, rfl⟩
  rw [← hA] at Y
  have hvm : s'.vm = s.vm := by rw [hA]; rfl
  have hhp : s'.heap = H := by rw [hA]; exact hT
  have hW0 : s.WarmedH s'.vm := by rw [hvm]; exact State.WarmedH.refl s
  have hat' : ∀ w ∈ vx_at0 own ic cls names, w.before args s' = true := fun w hw => vx_ot_at hW0 hvm.symm (hgood w (List.mem_cons_of_mem _ (List.mem_cons_of_mem _ hw))) (hat w hw)
  have hk' : (Cond.classLink own ik cls).before args s' = true := vx_ot_at hW0 hvm.symm (hgood _ List.mem_cons_self) hk
  have hini' : (Cond.initialized cls).before args s' = true := vx_ot_at hW0 hvm.symm (hgood _ (List.mem_cons_of_mem _ List.mem_cons_self)) hini
  have hU' : vx_Zq Bundle.tN "UNASSIGNED_STACK" Bundle.steD A s' s'.heap := by rw [hhp]; exact vx_Zq.moved hW0.alike (hU.kept hS.2.1)
  have hN' : vx_Zq Bundle.tN "SUPPRESSED_SENTINEL" Bundle.listD A s' s'.heap := by rw [hhp]; exact vx_Zq.moved hW0.alike (hN.kept hS.2.1)
  have h : ∀ w ∈ Bundle.ownAtoms0 own ic cls names, w.before args s' = true := vx_own hat' (vx_isRefq hU'.1) (vx_isRefq hN'.1) hU'.2.word hN'.2.word
  have hown' : s'.vm.findClass own = some m.cls := by rw [hvm]; exact hown
  have hins : (Cond.instantiable cls 6).before args s' = true := h _ (by simp [Bundle.ownAtoms0])
  obtain ⟨vm₁, cX, kX, hfX, hkX, -, -, X₁, st1⟩ := Y.newCold hexec (own := own) (C := cls) (index := ik) (n := 6) hown' hk' hins hini'
    (g := F0 m pc ls rest) rfl (by rw [hb]; exact d0) (Nat.le_refl _) (Nat.le_refl _)
  generalize hT1 : (T.setVm vm₁).pushCell { cls := cX, slots := kX.instanceTypes.map defaultValue, vm := .none } = T1 at X₁ st1
  have hcat : (Value.ref T.heap.size).category = 1 := rfl
  have hcellA : T1.heap[T.heap.size]? = some (freshCell cX kX) := by rw [← hT1]; exact State.heap_pushCell_size _ _
  have d3' : decode c.code (pc + 3) = .ok (.dup, 1) := by rw [hb]; exact d3
  obtain ⟨U, hsteps, hrun, hend, hW, hsame, ce, hce, hO⟩ := X₁.ctorThrow0 hexec htr (own := own) (cls := cls) (names := names) (ic := ic) hown' hcls hnames h (fun x hx => nomatch hx) hfX hkX hcellA (by rw [hhp, hT]; exact Nat.le_refl _)
    (g := { method := m, pc := pc + 4, locals := ls, stack := .ref T.heap.size :: .ref T.heap.size :: rest, locked := none }) rfl hsize rfl rfl (rest := rest) rfl
    (by rw [hb]; exact d4) (by rw [hb]; exact d7) hout hRframes (by simp only [List.map_cons, List.sum_cons, hcat]; omega) hlocks
  obtain ⟨f1, f2⟩ := vx_frame hsame
  rw [hhp] at f1 f2
  have hWs : s.WarmedH U.vm := State.WarmedH.trans hW0 hW
  have hcl : s.vm.findClass cls = some ce.cls := by
    have h9 := hO.cls
    rw [hvm] at h9
    exact h9
  have hall : s.sameButNew ({ U with vm := s.vm } : State) locs mc ms := by
    subst hA
    obtain ⟨e1, e2⟩ := hsame
    rw [State.setFrames_setFrames] at e1
    have h2 : (T.setVm s.vm).sameButNew ({ U with vm := s.vm } : State) [] (0 + 1) (0 + 6) := ⟨e1, e2⟩
    have h3 := X.same.trans h2
    rw [List.append_nil] at h3
    exact h3.mono hc hs
  refine ⟨U, ?_, .threw T.heap.size, hrun, hend, Or.inr ⟨T.heap.size, rfl, cls, ce, locs, hx U hWs.alike f1 (fun q hq => f2 q hq (fun z hz => nomatch hz)), hce, hO.vm, hcl, hWs, hall, hf⟩⟩
  refine st1 _ ?_
  show Steps p.tables e below (T1.setTop { method := m, pc := pc + 3, locals := ls, stack := .ref T.heap.size :: rest, locked := none }) _
  jvm_step X₁.here [X₁.here.top, hexec, d3', Value.category]
  exact hsteps
/-- 'throw new E("text")': new; dup; ldc; invokespecial; athrow -/
theorem vx_throwS {cc : ByteArray} {pc : Nat} (hexec : p.tables.exec = Jvm.exec) (hb : c.code = cc) (hl : l.stackTraces = false) {own cls text : String} {names : List String} {ik is ic mc ms sa : Nat} {A : Nat → Prop}
    (hown : s.vm.findClass own = some m.cls) (hcls : Bundle.fit cls = true) (hnames : ∀ n ∈ names, Bundle.fit n = true)
    (hk : (Cond.classLink own ik cls).before args s = true) (hini : (Cond.initialized cls).before args s = true) (hstr : vk_R own is text sa s) (hat : ∀ w ∈ vx_atS own ic cls names, w.before args s = true)
    (hgood : ∀ w ∈ Cond.classLink own ik cls :: Cond.initialized cls :: vx_atS own ic cls names, vx_ot w = true)
    (hU : vx_Zq Bundle.tN "UNASSIGNED_STACK" Bundle.steD A s s.heap) (hN : vx_Zq Bundle.tN "SUPPRESSED_SENTINEL" Bundle.listD A s s.heap) (hS : va_S A s.heap H locs) (hsize : ls.size = c.maxLocals)
    (d0 : decode cc pc = .ok (.new ik, 3)) (d3 : decode cc (pc + 3) = .ok (.dup, 1)) (d4 : decode cc (pc + 4) = .ok (.ldc is, 2)) (d6 : decode cc (pc + 6) = .ok (.invokespecial ic, 3)) (d9 : decode cc (pc + 9) = .ok (.athrow, 1))
    (hout : ∀ x ∈ c.exceptionTable.toList, covers x (pc + 9) = false)
    (hRframes : names.length + 3 < R.frames) (hRlocals : (rest.map fun v => v.category).sum + (13 * (names.length + 1) + 43) ≤ R.locals) (hRcells : cells + 1 ≤ R.cells) (hRslots : slots + 6 ≤ R.slots) (hlocks : meth.locks = false)
    (hx : ∀ t : State, s.vm.Alike t.vm → H.size ≤ t.heap.size → (∀ q : Nat, q < H.size → t.heap[q]? = H[q]?) → XC cls s t)
    (hf : ∀ z ∈ locs, free z.base) (hc : cells + 1 ≤ mc) (hs : slots + 6 ≤ ms) :
    W p l e R s m args below meth c H locs cells slots (vx_MQ below Qc XC args s mc ms free) (F0 m pc ls rest) := by
  intro T hT X
  have htr : e.platform.stackTraces = false := (show e.platform.stackTraces = l.stackTraces by rw [X.admits.platform]).trans hl
  have Y := vx_rebase X (R' := { frames := R.frames, locals := R.locals, cells := 1, slots := 6 }) (Nat.le_refl _) (Nat.le_refl _) hRcells hRslots
  obtain ⟨s', hA⟩ : ∃ z, z = (T.setVm s.vm).setFrames (.invoking m args :: below) := ⟨_, rfl⟩
  rw [← hA] at Y
  have hvm : s'.vm = s.vm := by rw [hA]; rfl
  have hhp : s'.heap = H := by rw [hA]; exact hT
  have hW0 : s.WarmedH s'.vm := by rw [hvm]; exact State.WarmedH.refl s
  have hat' : ∀ w ∈ vx_atS own ic cls names, w.before args s' = true := fun w hw => vx_ot_at hW0 hvm.symm (hgood w (List.mem_cons_of_mem _ (List.mem_cons_of_mem _ hw))) (hat w hw)
  have hk' : (Cond.classLink own ik cls).before args s' = true := vx_ot_at hW0 hvm.symm (hgood _ List.mem_cons_self) hk
  have hini' : (Cond.initialized cls).before args s' = true := vx_ot_at hW0 hvm.symm (hgood _ (List.mem_cons_of_mem _ List.mem_cons_self)) hini
  have hU' : vx_Zq Bundle.tN "UNASSIGNED_STACK" Bundle.steD A s' s'.heap := by rw [hhp]; exact vx_Zq.moved hW0.alike (hU.kept hS.2.1)
  have hN' : vx_Zq Bundle.tN "SUPPRESSED_SENTINEL" Bundle.listD A s' s'.heap := by rw [hhp]; exact vx_Zq.moved hW0.alike (hN.kept hS.2.1)
  have h : ∀ w ∈ Bundle.ownAtoms own ic cls names, w.before args s' = true := vx_own hat' (vx_isRefq hU'.1) (vx_isRefq hN'.1) hU'.2.word hN'.2.word
  have hown' : s'.vm.findClass own = some m.cls := by rw [hvm]; exact hown
  have hins : (Cond.instantiable cls 6).before args s' = true := h _ (by simp [Bundle.ownAtoms])
  obtain ⟨vm₁, cX, kX, hfX, hkX, -, -, X₁, st1⟩ := Y.newCold hexec (own := own) (C := cls) (index := ik) (n := 6) hown' hk' hins hini'
    (g := F0 m pc ls rest) rfl (by rw [hb]; exact d0) (Nat.le_refl _) (Nat.le_refl _)
  generalize hT1 : (T.setVm vm₁).pushCell { cls := cX, slots := kX.instanceTypes.map defaultValue, vm := .none } = T1 at X₁ st1
  have hcat : (Value.ref T.heap.size).category = 1 := rfl
  have hcellA : T1.heap[T.heap.size]? = some (freshCell cX kX) := by rw [← hT1]; exact State.heap_pushCell_size _ _
  have d3' : decode c.code (pc + 3) = .ok (.dup, 1) := by rw [hb]; exact d3
  have d4' : decode c.code (pc + 4) = .ok (.ldc is, 2) := by rw [hb]; exact d4
  have hstr' : vk_R own is text sa s' := vk_R.warm hW0 hstr
  obtain ⟨U, hsteps, hrun, hend, hW, hsame, ce, hce, hO⟩ := X₁.ctorThrowS hexec htr (own := own) (cls := cls) (names := names) (ic := ic) hown' hcls hnames h (fun x hx => nomatch hx) hfX hkX hcellA (by rw [hhp, hT]; exact Nat.le_refl _) (msg := .ref sa) rfl
    (g := { method := m, pc := pc + 6, locals := ls, stack := .ref sa :: .ref T.heap.size :: .ref T.heap.size :: rest, locked := none }) rfl hsize rfl rfl (rest := rest) rfl
    (by rw [hb]; exact d6) (by rw [hb]; exact d9) hout hRframes (by simp only [List.map_cons, List.sum_cons, hcat]; omega) hlocks
  obtain ⟨f1, f2⟩ := vx_frame hsame
  rw [hhp] at f1 f2
  have hWs : s.WarmedH U.vm := State.WarmedH.trans hW0 hW
  have hcl : s.vm.findClass cls = some ce.cls := by
    have h9 := hO.cls
    rw [hvm] at h9
    exact h9
  have hall : s.sameButNew ({ U with vm := s.vm } : State) locs mc ms := by
    subst hA
    obtain ⟨e1, e2⟩ := hsame
    rw [State.setFrames_setFrames] at e1
    have h2 : (T.setVm s.vm).sameButNew ({ U with vm := s.vm } : State) [] (0 + 1) (0 + 6) := ⟨e1, e2⟩
    have h3 := X.same.trans h2
    rw [List.append_nil] at h3
    exact h3.mono hc hs
  refine ⟨U, ?_, .threw T.heap.size, hrun, hend, Or.inr ⟨T.heap.size, rfl, cls, ce, locs, hx U hWs.alike f1 (fun q hq => f2 q hq (fun z hz => nomatch hz)), hce, hO.vm, hcl, hWs, hall, hf⟩⟩
  refine st1 _ ?_
  show Steps p.tables e below (T1.setTop { method := m, pc := pc + 3, locals := ls, stack := .ref T.heap.size :: rest, locked := none }) _
  jvm_step X₁.here [X₁.here.top, hexec, d3', Value.category]
  exact X₁.ldcString hexec (own := own) (text := text) (index := is) (a := sa) hown' hstr'.1 hstr'.2
    (g := { method := m, pc := pc + 4, locals := ls, stack := .ref T.heap.size :: .ref T.heap.size :: rest, locked := none }) rfl d4' _ hsteps
/-- 'throw new E("text")', the text by a wide index -/
theorem vx_throwSW {cc : ByteArray} {pc : Nat} (hexec : p.tables.exec = Jvm.exec) (hb : c.code = cc) (hl : l.stackTraces = false) {own cls text : String} {names : List String} {ik is ic mc ms sa : Nat} {A : Nat → Prop}
    (hown : s.vm.findClass own = some m.cls) (hcls : Bundle.fit cls = true) (hnames : ∀ n ∈ names, Bundle.fit n = true)
    (hk : (Cond.classLink own ik cls).before args s = true) (hini : (Cond.initialized cls).before args s = true) (hstr : vk_R own is text sa s) (hat : ∀ w ∈ vx_atS own ic cls names, w.before args s = true)
    (hgood : ∀ w ∈ Cond.classLink own ik cls :: Cond.initialized cls :: vx_atS own ic cls names, vx_ot w = true)
    (hU : vx_Zq Bundle.tN "UNASSIGNED_STACK" Bundle.steD A s s.heap) (hN : vx_Zq Bundle.tN "SUPPRESSED_SENTINEL" Bundle.listD A s s.heap) (hS : va_S A s.heap H locs) (hsize : ls.size = c.maxLocals)
    (d0 : decode cc pc = .ok (.new ik, 3)) (d3 : decode cc (pc + 3) = .ok (.dup, 1)) (d4 : decode cc (pc + 4) = .ok (.ldc_w is, 3)) (d7 : decode cc (pc + 7) = .ok (.invokespecial ic, 3)) (d10 : decode cc (pc + 10) = .ok (.athrow, 1))
    (hout : ∀ x ∈ c.exceptionTable.toList, covers x (pc + 10) = false)
    (hRframes : names.length + 3 < R.frames) (hRlocals : (rest.map fun v => v.category).sum + (13 * (names.length + 1) + 43) ≤ R.locals) (hRcells : cells + 1 ≤ R.cells) (hRslots : slots + 6 ≤ R.slots) (hlocks : meth.locks = false)
    (hx : ∀ t : State, s.vm.Alike t.vm → H.size ≤ t.heap.size → (∀ q : Nat, q < H.size → t.heap[q]? = H[q]?) → XC cls s t)
    (hf : ∀ z ∈ locs, free z.base) (hc : cells + 1 ≤ mc) (hs : slots + 6 ≤ ms) :
    W p l e R s m args below meth c H locs cells slots (vx_MQ below Qc XC args s mc ms free) (F0 m pc ls rest) := by
  intro T hT X
  have htr : e.platform.stackTraces = false := (show e.platform.stackTraces = l.stackTraces by rw [X.admits.platform]).trans hl
  have Y := vx_rebase X (R' := { frames := R.frames, locals := R.locals, cells := 1, slots := 6 }) (Nat.le_refl _) (Nat.le_refl _) hRcells hRslots
  obtain ⟨s', hA⟩ : ∃ z, z = (T.setVm s.vm).setFrames (.invoking m args :: below) := ⟨_, rfl⟩
  rw [← hA] at Y
  have hvm : s'.vm = s.vm := by rw [hA]; rfl
  have hhp : s'.heap = H := by rw [hA]; exact hT
  have hW0 : s.WarmedH s'.vm := by rw [hvm]; exact State.WarmedH.refl s
  have hat' : ∀ w ∈ vx_atS own ic cls names, w.before args s' = true := fun w hw => vx_ot_at hW0 hvm.symm (hgood w (List.mem_cons_of_mem _ (List.mem_cons_of_mem _ hw))) (hat w hw)
  have hk' : (Cond.classLink own ik cls).before args s' = true := vx_ot_at hW0 hvm.symm (hgood _ List.mem_cons_self) hk
  have hini' : (Cond.initialized cls).before args s' = true := vx_ot_at hW0 hvm.symm (hgood _ (List.mem_cons_of_mem _ List.mem_cons_self)) hini
  have hU' : vx_Zq Bundle.tN "UNASSIGNED_STACK" Bundle.steD A s' s'.heap := by rw [hhp]; exact vx_Zq.moved hW0.alike (hU.kept hS.2.1)
  have hN' : vx_Zq Bundle.tN "SUPPRESSED_SENTINEL" Bundle.listD A s' s'.heap := by rw [hhp]; exact vx_Zq.moved hW0.alike (hN.kept hS.2.1)
  have h : ∀ w ∈ Bundle.ownAtoms own ic cls names, w.before args s' = true := vx_own hat' (vx_isRefq hU'.1) (vx_isRefq hN'.1) hU'.2.word hN'.2.word
  have hown' : s'.vm.findClass own = some m.cls := by rw [hvm]; exact hown
  have hins : (Cond.instantiable cls 6).before args s' = true := h _ (by simp [Bundle.ownAtoms])
  obtain ⟨vm₁, cX, kX, hfX, hkX, -, -, X₁, st1⟩ := Y.newCold hexec (own := own) (C := cls) (index := ik) (n := 6) hown' hk' hins hini'
    (g := F0 m pc ls rest) rfl (by rw [hb]; exact d0) (Nat.le_refl _) (Nat.le_refl _)
  generalize hT1 : (T.setVm vm₁).pushCell { cls := cX, slots := kX.instanceTypes.map defaultValue, vm := .none } = T1 at X₁ st1
  have hcat : (Value.ref T.heap.size).category = 1 := rfl
  have hcellA : T1.heap[T.heap.size]? = some (freshCell cX kX) := by rw [← hT1]; exact State.heap_pushCell_size _ _
  have d3' : decode c.code (pc + 3) = .ok (.dup, 1) := by rw [hb]; exact d3
  have d4' : decode c.code (pc + 4) = .ok (.ldc_w is, 3) := by rw [hb]; exact d4
  have hstr' : vk_R own is text sa s' := vk_R.warm hW0 hstr
  obtain ⟨U, hsteps, hrun, hend, hW, hsame, ce, hce, hO⟩ := X₁.ctorThrowS hexec htr (own := own) (cls := cls) (names := names) (ic := ic) hown' hcls hnames h (fun x hx => nomatch hx) hfX hkX hcellA (by rw [hhp, hT]; exact Nat.le_refl _) (msg := .ref sa) rfl
    (g := { method := m, pc := pc + 7, locals := ls, stack := .ref sa :: .ref T.heap.size :: .ref T.heap.size :: rest, locked := none }) rfl hsize rfl rfl (rest := rest) rfl
    (by rw [hb]; exact d7) (by rw [hb]; exact d10) hout hRframes (by simp only [List.map_cons, List.sum_cons, hcat]; omega) hlocks
  obtain ⟨f1, f2⟩ := vx_frame hsame
  rw [hhp] at f1 f2
  have hWs : s.WarmedH U.vm := State.WarmedH.trans hW0 hW
  have hcl : s.vm.findClass cls = some ce.cls := by
    have h9 := hO.cls
    rw [hvm] at h9
    exact h9
  have hall : s.sameButNew ({ U with vm := s.vm } : State) locs mc ms := by
    subst hA
    obtain ⟨e1, e2⟩ := hsame
    rw [State.setFrames_setFrames] at e1
    have h2 : (T.setVm s.vm).sameButNew ({ U with vm := s.vm } : State) [] (0 + 1) (0 + 6) := ⟨e1, e2⟩
    have h3 := X.same.trans h2
    rw [List.append_nil] at h3
    exact h3.mono hc hs
  refine ⟨U, ?_, .threw T.heap.size, hrun, hend, Or.inr ⟨T.heap.size, rfl, cls, ce, locs, hx U hWs.alike f1 (fun q hq => f2 q hq (fun z hz => nomatch hz)), hce, hO.vm, hcl, hWs, hall, hf⟩⟩
  refine st1 _ ?_
  show Steps p.tables e below (T1.setTop { method := m, pc := pc + 3, locals := ls, stack := .ref T.heap.size :: rest, locked := none }) _
  jvm_step X₁.here [X₁.here.top, hexec, d3', Value.category]
  exact X₁.ldcStringW hexec (own := own) (text := text) (index := is) (a := sa) hown' hstr'.1 hstr'.2
    (g := { method := m, pc := pc + 4, locals := ls, stack := .ref T.heap.size :: .ref T.heap.size :: rest, locked := none }) rfl d4' _ hsteps
end Ends
section Bodies
variable {l : Launch}
theorem vx_ofW {y : MethodName} {ws ws' : List Cond} {rm : Room} {Pc : Array Value → State → Prop} {Qc : Array Value → State → Outcome → State → Prop} {XC : String → State → State → Prop} {mc ms : Nat} {free : Addr → Prop} {cc : ByteArray} {maxL : Nat} {ret : Option FieldType}
    (hy : plainName y.cls = true) (hw : ws = Cond.code y cc maxL ret :: ws')
    (body : ∀ p e s m args below meth c s₁, BodyLoose p l y (headSpec ws rm) cc maxL ret e s m args below meth c s₁ → c.maxLocals = maxL → (∀ x ∈ c.exceptionTable.toList, False) → Pc args s →
      W p l e (headSpec ws rm).room s m args below meth c s.heap [] 0 0 (vx_MQ below Qc XC args s mc ms free) (entryFrame m args maxL)) : vx_Met l y ws rm Pc Qc XC mc ms free := by
  refine MetFree.of_bodyS (code := cc) (maxLocals := maxL) (ret := ret) hy ?_ ?_
  · intro args s m h hn
    obtain ⟨meth, c, h1, h2, h3, h4, h5, h6, -, -⟩ := Cond.code_spec hn (atoms_spec (ws := ws) h _ (by rw [hw]; exact List.mem_cons_self))
    exact ⟨meth, c, h1, h2, h3, h4, h5, h6⟩
  · intro p e s m args below meth c s₁ B hml hP _
    have hh0 : s₁.heap = s.heap := by rw [B.state]; rfl
    have ht : ∀ x ∈ c.exceptionTable.toList, False := by
      obtain ⟨meth9, c9, h1, h2, -, -, -, -, h7, -⟩ := Cond.code_spec B.named (atoms_spec (ws := ws) B.pre _ (by rw [hw]; exact List.mem_cons_self))
      cases Option.some.inj (h1.symm.trans B.method)
      cases Option.some.inj (h2.symm.trans (Stand.of_body B).code)
      intro x hx
      rw [Array.isEmpty_iff.mp h7] at hx
      cases hx
    obtain ⟨t, a1, o, b1, b2, b3⟩ := body p e s m args below meth c s₁ B hml ht hP s₁ hh0 (Stand.of_body B)
    exact ⟨t, o, a1, b1, b2, b3⟩
/-- the table of a body with handlers -/
theorem vx_table {p : Program} {x y : MethodName} {S : Spec} {cc bytes : ByteArray} {maxL maxL' : Nat} {ret ret' : Option FieldType} {e : Env} {s s₁ : State} {m : MethodId} {args : Array Value} {below : List Frame} {meth : Method} {c : Code} {hh : List (Nat × Nat × Nat × Nat)}
    (B : BodyLoose p l y S cc maxL ret e s m args below meth c s₁) (h : (Cond.codeWith y bytes maxL' ret' hh).before args s = true) : c.exceptionTable.toList = tableOf hh := by
  obtain ⟨m9, meth9, c9, hn9, h1, h2, -, -, h6, -⟩ := Cond.codeWith_spec h
  cases Option.some.inj (hn9.symm.trans B.named)
  cases Option.some.inj (h1.symm.trans B.method)
  cases Option.some.inj (h2.symm.trans (Stand.of_body B).code)
  rw [← h6, table_eq]
end Bodies
end VXA
/-! ===== END ===== -/
/-! ===== BEGIN a static call of a method with an exception table ===== -/
section VXS
variable {p : Program} {l : Launch} {e : Env} {R : Room} {s : State} {m : MethodId} {args : Array Value} {below : List Frame} {meth : Method} {c : Code} {T : State} {H : Heap} {locs : List Loc} {cells slots : Nat}
abbrev vx_CSW (R : Room) (s : State) (args : Array Value) (own : String) (index : Nat) (y : MethodName) (bytes : ByteArray) (maxL : Nat) (ret : Option FieldType) (hh : List (Nat × Nat × Nat × Nat)) (ws : List Cond) (rm : Room) (mc ms n : Nat) : Prop :=
  (rm.cells = mc ∧ rm.slots = ms ∧ rm.frames + 1 ≤ R.frames ∧ 8 + (maxL + 11) + rm.locals ≤ R.locals ∧ (∀ w ∈ ws, ∀ (a' : Array Value) (U : State), s.WarmedH U.vm → w.before a' U = true) ∧ Cond.codeWith y bytes maxL ret hh ∈ ws) ∧
  (Cond.codeWith y bytes maxL ret hh).before args s = true ∧ (Cond.initialized y.cls).before args s = true ∧ (y.cls ≠ "java/lang/invoke/MethodHandle" ∧ y.cls ≠ "java/lang/invoke/VarHandle") ∧
  (∀ sig, parseMethodDescriptor y.desc = some sig → n = sig.parameters.length) ∧ (Cond.methodLink own index y).before args s = true ∧ (Cond.static y).before args s = true
theorem vx_cwSW {own : String} {index maxL mc ms : Nat} {y : MethodName} {bytes : ByteArray} {ret : Option FieldType} {hh : List (Nat × Nat × Nat × Nat)} {Ts ws ws' : List Cond} {rm : Room} (n : Nat) (ht : ∀ w ∈ Ts, w.before args s = true) (hT : GoodIn Ts (va_wsS own index y ws)) (hw : ws = Cond.codeWith y bytes maxL ret hh :: ws') (hrc : rm.cells = mc) (hrs : rm.slots = ms)
    (hd : y.cls ≠ "java/lang/invoke/MethodHandle" ∧ y.cls ≠ "java/lang/invoke/VarHandle" ∧ (parseMethodDescriptor y.desc).map (fun d => d.parameters.length) = some n) (hR : rm.frames + 1 ≤ R.frames ∧ 8 + (maxL + 11) + rm.locals ≤ R.locals) :
    vx_CSW R s args own index y bytes maxL ret hh ws rm mc ms n := by
  have ok : ∀ w ∈ va_wsS own index y ws, w.before args s = true := fun w h => ht w (hT w h).1
  have hG : GoodIn Ts ws := fun w h => hT w (by unfold va_wsS; exact List.mem_append_right _ h)
  have hc : Cond.codeWith y bytes maxL ret hh ∈ ws := by rw [hw]; exact List.mem_cons_self
  refine ⟨⟨hrc, hrs, hR.1, hR.2, pay_in ht hG, hc⟩, ht _ (hG _ hc).1, ok _ (by simp [va_wsS]), ⟨hd.1, hd.2.1⟩, fun sig h => ?_, ok _ (by simp [va_wsS]), ok _ (by simp [va_wsS])⟩
  have h2 := hd.2.2
  rw [h] at h2
  exact (Option.some.inj h2).symm
theorem vx_callSW (X : Stand p l e R s m args below meth c T locs cells slots) (hexec : p.tables.exec = Jvm.exec) {own : String} {index : Nat} {y : MethodName} {bytes : ByteArray} {maxL : Nat} {ret : Option FieldType} {hh : List (Nat × Nat × Nat × Nat)}
    (hown : s.vm.findClass own = some m.cls) (hlink : (Cond.methodLink own index y).before args s = true) (hstat : (Cond.static y).before args s = true) (hinit : (Cond.initialized y.cls).before args s = true)
    (hcode : (Cond.codeWith y bytes maxL ret hh).before args s = true) (hy : y.cls ≠ "java/lang/invoke/MethodHandle" ∧ y.cls ≠ "java/lang/invoke/VarHandle")
    {W9 : Nat} {Pre : Pt → Array Value → Prop} {Post : Pt → Array Value → Option Value → Pt → Prop} (hK : Back l R p e below s args y 3 W9 Pre Post)
    {g : JFrame} (hg : g.method = m) (hsize : g.locals.size = c.maxLocals) {argsL rest : List Value} (hlen : ∀ sig, parseMethodDescriptor y.desc = some sig → argsL.length = sig.parameters.length)
    (hstack : g.stack = argsL.reverse ++ rest) (hW : 2 * g.monitorRoom + (rest.map fun v => v.category).sum ≤ W9) (hdg : decode c.code g.pc = .ok (.invokestatic index, 3))
    (hpre : ∀ vm₁, s.WarmedH vm₁ → Pre ⟨T.setVm vm₁, locs, cells, slots⟩ argsL.toArray) :
    ∃ (v : Option Value) (vm₁ : Vm) (B : Pt), s.WarmedH vm₁ ∧ Stand p l e R s m args below meth c B.U B.locs B.cells B.slots ∧ Post ⟨T.setVm vm₁, locs, cells, slots⟩ argsL.toArray v B ∧
      ∀ target, Steps p.tables e below (B.U.setTop { g with pc := g.pc + 3, stack := v.toList ++ rest }) target → Steps p.tables e below (T.setTop g) target := by
  obtain ⟨mk, methM, cM, hnamed, hmethM, -, -, -, -, -, -, hsigM⟩ := Cond.codeWith_spec hcode
  have hstatic : methM.isStatic = true := Cond.static_spec hnamed hmethM hstat
  obtain ⟨kP, hkP, -⟩ := className_of_methodNamed hnamed
  have hinitP : kP.init = .initialized := Cond.initialized_spec (findClass_of_methodNamed hnamed) hkP hinit
  obtain ⟨vm₁, X₁, hstep₁⟩ := X.invokestatic hexec hown hlink hnamed hmethM hstatic hkP hinitP hy (g := g) hg (argsL := argsL) (rest := rest) (hlen _ hsigM) hstack hdg
  obtain ⟨v, B, X', hpost, hsteps⟩ := hK m meth c ⟨T.setVm vm₁, locs, cells, slots⟩ { g with stack := rest } (.invokestatic index) mk argsL.toArray X₁ hg hsize hdg hW (X₁.named hnamed) (hpre vm₁ X₁.warmed)
  exact ⟨v, vm₁, B, X₁.warmed, X', hpost, fun target h => hstep₁ _ fun acts => by rw [doInvoke_state]; exact hsteps.trans h⟩
theorem vx_runSW {y : MethodName} {bytes cc : ByteArray} {maxL nL mc ms n index : Nat} {ret : Option FieldType} {hh : List (Nat × Nat × Nat × Nat)} {ws : List Cond} {rm : Room} {Pc : Array Value → State → Prop} {Qc : Array Value → State → Outcome → State → Prop} {free : Addr → Prop} {Ts : List Cond} {own : String} {As rest : List Value} {g : JFrame}
    (S : CallFix p m c cc nL s args Ts own) (hM : Met l y ws rm Pc Qc mc ms free) (cw : vx_CSW R s args own index y bytes maxL ret hh ws rm mc ms n) (hp : PreS s H Pc As)
    (hg : g.method = m) (hn : As.length = n) (hsize : g.locals.size = nL) (hstack : g.stack = As.reverse ++ rest) (hW : 2 * g.monitorRoom + (rest.map fun v => v.category).sum ≤ 8) (hdg : decode cc g.pc = .ok (.invokestatic index, 3)) (hf : cells + mc ≤ R.cells ∧ slots + ms ≤ R.slots) :
    va_Run p l e R s m args below meth c H locs cells slots mc ms g rest (Qc As.toArray) (free) := by
  obtain ⟨⟨hrc, hrs, hfr, hlo, hws, hcw⟩, hcode, hini, hy, hlen, hl, hstt⟩ := cw
  have hK : Back l R p e below s args y 3 8 (PreOf R mc ms Pc) (PostOf Qc mc ms free) := va_backW (hh := hh) (bytes := bytes) (maxL := maxL) (ret := ret) hM hp.1 hrc hrs hfr hlo hws hcw (fun a' U hW => word_at hW (Or.inl (by first | rfl | simp [Cond.onTables, Cond.keeps, Cond.steady])) hini)
  obtain ⟨hx, hb, hml, ho, -⟩ := S
  intro T hT X
  obtain ⟨v, vm₁, ⟨U', l2, c2, s2⟩, hW₁, X', ⟨g', mk, t, L, e1, e2, hq, h1, hL, h2, h3⟩, st⟩ := vx_callSW X hx (hh := hh) (bytes := bytes) (maxL := maxL) (ret := ret) ho hl hstt hini hcode hy hK hg (hsize.trans hml.symm) (argsL := As) (rest := rest) (fun sig h => hn.trans (hlen sig h)) hstack hW (by rw [hb]; exact hdg)
    (fun vm₁ hW₁ => ⟨hf.1, hf.2, hp.2 (T.setVm vm₁) hT hW₁⟩)
  dsimp only [Pt.U, Pt.locs, Pt.cells, Pt.slots] at X' e1 e2 h1 h2 h3 st
  subst h1; subst h2; subst h3
  exact ⟨v, (T.setVm vm₁).calling g' mk As.toArray, t, U', L, hT, X', hL, e1, e2, hq, st⟩
/-- a thing of a world lies in the heap -/
theorem vx_lt {D : va_G} {cl : List vw_C} {ws : va_W} {H1 : Heap} (h : va_P D cl ws H1) {k : Nat} {q : Nat × va_E} (hk : ws[k]? = some q) : q.1 < H1.size := (h k q hk).lt
end VXS
/-! ===== END ===== -/
/-! ===== BEGIN methods with a table of their own: called by a name, returning or throwing ===== -/
section VXH
/-! vx_backW, vx_callVX, vx_callSX, vx_callVW, vx_runVW, vx_runVX, vx_runSX, vx_ofWH follow the same proofs as their sisters above (Free/Laws.lean, Shelf42/LK1.lean); vx_outP calls Shelf42/NT130.lean (outThrough). -/
section
variable {l : Launch} {R : Room} {p : Program} {e : Env} {below : List Frame} {s : State} {sargs : Array Value} {y : MethodName} {len W9 : Nat}
theorem vx_backW {ws : List Cond} {rm : Room} {Pc : Array Value → State → Prop} {Qc : Array Value → State → Outcome → State → Prop} {XC : String → State → State → Prop} {mc ms : Nat} {free : Addr → Prop} {bytes : ByteArray} {maxL : Nat} {ret : Option FieldType} {hh : List (Nat × Nat × Nat × Nat)}
    (hM : vx_Met l y ws rm Pc Qc XC mc ms free) (hblind : FrameBlind Pc) (hrc : rm.cells = mc) (hrs : rm.slots = ms)
    (hframes : rm.frames + 1 ≤ R.frames) (hlocals : W9 + (maxL + 11) + rm.locals ≤ R.locals)
    (hws : ∀ w ∈ ws, ∀ a' U, s.WarmedH U.vm → w.before a' U = true) (hcode : Cond.codeWith y bytes maxL ret hh ∈ ws) (hinit : ∀ a' U, s.WarmedH U.vm → (Cond.initialized y.cls).before a' U = true) :
    vx_Back l R p e below s sargs y len W9 (PreOf R mc ms Pc) (PostOf Qc mc ms free) (vx_Post XC mc ms free) := by
  intro m meth c A g ig mk a X hg hsize hdg hW hn hp
  have h1 : (headSpec ws rm).pre.before a A.U = true := atoms_intro fun w hw => hws w hw _ _ X.warmed
  have h2 : (Cond.codeWith y bytes maxL ret hh).before a A.U = true := hws _ hcode _ _ X.warmed
  have h3 : (Cond.initialized y.cls).before a A.U = true := hinit _ _ X.warmed
  have h4 : A.cells + (headSpec ws rm).room.cells ≤ R.cells := by rw [show (headSpec ws rm).room.cells = mc from hrc]; exact hp.1
  have h5 : A.slots + (headSpec ws rm).room.slots ≤ R.slots := by rw [show (headSpec ws rm).room.slots = ms from hrs]; exact hp.2.1
  have hPc : Pc a (A.U.calling g mk a) := hblind _ _ _ _ hp.2.2
  obtain ⟨U, Ls, c0, s0⟩ := A
  dsimp only [Pt.U, Pt.locs, Pt.cells, Pt.slots] at h1 h2 h3 h4 h5 X hn hPc ⊢
  obtain ⟨m9, methY, cY, hn9, hmY, hcY, -, hlY, -⟩ := Cond.codeWith_spec h2
  cases Option.some.inj (hn9.symm.trans hn)
  obtain ⟨kY, hkY, -⟩ := className_of_methodNamed hn
  have hinitY : kY.init = .initialized := Cond.initialized_spec (findClass_of_methodNamed hn) hkY h3
  have h : At U g.method c below := by rw [hg]; exact X.here
  have hlocals9 : W9 + (maxL + 11) + (headSpec ws rm).room.locals ≤ R.locals := hlocals
  have happ : (headSpec ws rm).appliesLoose y e.platform (U.calling g mk a) = true :=
    Spec.appliesLoose_calling (g := g) h hdg hn hkY hinitY
      (X.room_calling (g := g) (R' := (headSpec ws rm).room) hsize hmY hcY hframes (by rw [hlY]; omega) h4 h5) h1
  obtain ⟨mid, hmid⟩ := h.above
  have hfr : (U.setTop g).frames = (.java g :: mid) ++ below := by rw [State.frames_setTop' g h.top, hmid]; rfl
  obtain ⟨o, s₂, hsteps, -, hend, hq⟩ := Steps.callFree hM p X.admits X.cas X.clock (acts := []) hfr happ hPc trivial
  have hq' : vx_Q Qc XC mc ms free a (U.calling g mk a) o s₂ := hq
  rw [State.frames_setTop' g h.top] at hend
  obtain ⟨g₀, hg0⟩ := Option.isSome_iff_exists.mp h.top
  obtain ⟨r, hr⟩ := State.topJava?_eq_some.mp hg0
  have hr' : (({ U with heap := s₂.heap, slotsUsed := s₂.slotsUsed } : State).setVm s₂.vm).frames = .java g₀ :: r := hr
  rcases hq' with ⟨hqc, L, hfe, hL⟩ | ⟨q, rfl, E, ce, L, hx, hce, hcv, hcl, hW₂, hsm, hL⟩
  · obtain ⟨⟨v, rfl⟩, hW₂, e2, q2, q3, q4, q5, q6⟩ := id hfe
    have e3 : s₂ = ({ (U.calling g mk a).setFrames s₂.frames with heap := s₂.heap, slotsUsed := s₂.slotsUsed } : State).setVm s₂.vm := by
      have : s₂ = ({ s₂ with vm := (U.calling g mk a).vm } : State).setVm s₂.vm := rfl
      rw [e2] at this
      exact this
    obtain ⟨c₂, i₂, len₂, hc₂, hd₂, hf₂⟩ := hend
    have hW' : U.WarmedH s₂.vm := hW₂
    have hcc : c₂ = c := by
      have h1 : s₂.code? g.method = U.code? g.method := by
        rw [State.code?_eq, State.code?_eq, hW'.alike.method?]
      exact Option.some.inj (hc₂.symm.trans (h1.trans h.code))
    subst hcc
    have hlen : len₂ = len := by rw [hdg] at hd₂; cases hd₂; rfl
    subst hlen
    have hs₂ : s₂ = (({ U with heap := s₂.heap, slotsUsed := s₂.slotsUsed } : State).setVm s₂.vm).setTop { g with pc := g.pc + len₂, stack := v.toList ++ g.stack } := by
      refine e3.trans ?_
      rw [hf₂, State.calling_eq h.top, State.setFrames_setFrames, State.setTop_of_frames _ hr', hr]
      rfl
    have hsame : U.sameButNew ({ U with heap := s₂.heap, slotsUsed := s₂.slotsUsed } : State) L mc ms := by
      refine ⟨?_, q2, q3, q4, q5, q6⟩
      obtain ⟨t, ht, -⟩ := State.frames_cons hr
      show ({ U with heap := s₂.heap, slotsUsed := s₂.slotsUsed } : State) = { U.setFrames U.frames with heap := s₂.heap, slotsUsed := s₂.slotsUsed }
      rw [State.setFrames_self ht]
    subst hg
    refine Or.inl ⟨v, ⟨(({ U with heap := s₂.heap, slotsUsed := s₂.slotsUsed } : State).setVm s₂.vm), Ls ++ L, c0 + mc, s0 + ms⟩,
      ⟨X.admits, X.cas, X.clock, X.frames, X.room, X.hears, X.method, X.code, (X.here.setHeapUsed s₂.heap s₂.slotsUsed).setVm hW'.alike, X.tail, State.WarmedH.trans X.warmed hW', X.limits, X.bytes, X.same.trans (hsame.setVm s.vm)⟩,
      ⟨g, mk, s₂, L, rfl, rfl, hqc, rfl, hL, rfl, rfl⟩, ?_⟩
    show Steps p.tables e below _ ((({ U with heap := s₂.heap, slotsUsed := s₂.slotsUsed } : State).setVm s₂.vm).setTop { g with pc := g.pc + len₂, stack := v.toList ++ g.stack })
    rw [← hs₂]
    exact hsteps
  · obtain ⟨e2, q2, q3, q4, q5, q6⟩ := id hsm
    have e3 : s₂ = ({ (U.calling g mk a).setFrames s₂.frames with heap := s₂.heap, slotsUsed := s₂.slotsUsed } : State).setVm s₂.vm := by
      have : s₂ = ({ s₂ with vm := (U.calling g mk a).vm } : State).setVm s₂.vm := rfl
      rw [e2] at this
      exact this
    have hf₂ : s₂.frames = .throwing q :: .java g :: U.frames.tail := hend
    have hW' : U.WarmedH s₂.vm := hW₂
    have hs₂ : s₂ = ((({ U with heap := s₂.heap, slotsUsed := s₂.slotsUsed } : State).setVm s₂.vm).setTop g).pushFrame (.throwing q) := by
      refine e3.trans ?_
      rw [hf₂, State.calling_eq h.top, State.setFrames_setFrames, State.pushFrame, State.frames_setTop _ hr', State.setTop_of_frames _ hr', State.setFrames_setFrames, hr]
      rfl
    have hsame : U.sameButNew ({ U with heap := s₂.heap, slotsUsed := s₂.slotsUsed } : State) L mc ms := by
      refine ⟨?_, q2, q3, q4, q5, q6⟩
      obtain ⟨t, ht, -⟩ := State.frames_cons hr
      show ({ U with heap := s₂.heap, slotsUsed := s₂.slotsUsed } : State) = { U.setFrames U.frames with heap := s₂.heap, slotsUsed := s₂.slotsUsed }
      rw [State.setFrames_self ht]
    subst hg
    refine Or.inr ⟨q, ⟨(({ U with heap := s₂.heap, slotsUsed := s₂.slotsUsed } : State).setVm s₂.vm), Ls ++ L, c0 + mc, s0 + ms⟩,
      ⟨X.admits, X.cas, X.clock, X.frames, X.room, X.hears, X.method, X.code, (X.here.setHeapUsed s₂.heap s₂.slotsUsed).setVm hW'.alike, X.tail, State.WarmedH.trans X.warmed hW', X.limits, X.bytes, X.same.trans (hsame.setVm s.vm)⟩,
      ⟨g, mk, s₂, L, E, ce, rfl, rfl, hx, hce, hcv, hcl, rfl, hL, rfl, rfl⟩, ?_⟩
    show Steps p.tables e below _ (((({ U with heap := s₂.heap, slotsUsed := s₂.slotsUsed } : State).setVm s₂.vm).setTop g).pushFrame (.throwing q))
    rw [← hs₂]
    exact hsteps
end
variable {p : Program} {l : Launch} {e : Env} {R : Room} {s : State} {m : MethodId} {args : Array Value} {below : List Frame} {meth : Method} {c : Code} {T : State} {H : Heap} {locs : List Loc} {cells slots : Nat}
theorem vx_callVX (X : Stand p l e R s m args below meth c T locs cells slots) (hexec : p.tables.exec = Jvm.exec) {own C : String} {index : Nat} {y : MethodName} {bytes : ByteArray} {maxL : Nat} {ret : Option FieldType} {hh : List (Nat × Nat × Nat × Nat)}
    (hown : s.vm.findClass own = some m.cls) (hlink : (Cond.methodLink own index y).before args s = true) (hinst : (Cond.instanceMethod y).before args s = true) (hsel : (Cond.selects C y y).before args s = true)
    (hcode : (Cond.codeWith y bytes maxL ret hh).before args s = true) (hy : y.cls ≠ "java/lang/invoke/MethodHandle" ∧ y.cls ≠ "java/lang/invoke/VarHandle")
    {W9 : Nat} {Pre : Pt → Array Value → Prop} {Post : Pt → Array Value → Option Value → Pt → Prop} {PostX : Pt → Array Value → Addr → Pt → Prop} (hK : vx_Back l R p e below s args y 3 W9 Pre Post PostX)
    {b : Addr} {cellB : Cell} (hcell : T.heap[b]? = some cellB) (hobj : cellB.vm.isStatics = false) (hcls : s.vm.findClass C = some cellB.cls)
    {g : JFrame} (hg : g.method = m) (hsize : g.locals.size = c.maxLocals) {argsL rest : List Value} (hlen : ∀ sig, parseMethodDescriptor y.desc = some sig → argsL.length = sig.parameters.length)
    (hstack : g.stack = argsL.reverse ++ .ref b :: rest) (hW : 2 * g.monitorRoom + (rest.map fun v => v.category).sum ≤ W9) (hdg : decode c.code g.pc = .ok (.invokevirtual index, 3))
    (hpre : ∀ vm₁, s.WarmedH vm₁ → Pre ⟨T.setVm vm₁, locs, cells, slots⟩ (Value.ref b :: argsL).toArray) :
    (∃ (v : Option Value) (vm₁ : Vm) (B : Pt), s.WarmedH vm₁ ∧ Stand p l e R s m args below meth c B.U B.locs B.cells B.slots ∧ Post ⟨T.setVm vm₁, locs, cells, slots⟩ (Value.ref b :: argsL).toArray v B ∧
      ∀ target, Steps p.tables e below (B.U.setTop { g with pc := g.pc + 3, stack := v.toList ++ rest }) target → Steps p.tables e below (T.setTop g) target) ∨
    (∃ (q : Addr) (vm₁ : Vm) (B : Pt), s.WarmedH vm₁ ∧ Stand p l e R s m args below meth c B.U B.locs B.cells B.slots ∧ PostX ⟨T.setVm vm₁, locs, cells, slots⟩ (Value.ref b :: argsL).toArray q B ∧
      Steps p.tables e below (T.setTop g) ((B.U.setTop { g with stack := rest }).pushFrame (.throwing q))) := by
  obtain ⟨mk, methM, hnamed, hmethM, hstM, habM⟩ := Cond.instanceMethod_spec hinst
  obtain ⟨m8, methM', cM, hn8, hmethM', -, -, -, -, -, -, hsigM⟩ := Cond.codeWith_spec hcode
  cases Option.some.inj (hn8.symm.trans hnamed)
  cases hmethM.symm.trans hmethM'
  obtain ⟨c2, r2, m2, q1, q2, q3, q4, kP, hkP, hkPi⟩ := Cond.selects_spec hsel
  cases hcls.symm.trans q1
  cases (State.methodFound?_of_named hnamed hy).symm.trans q2
  cases hnamed.symm.trans q3
  have hselP : selectMethod e.platform s.vm cellB.cls mk = .method mk := by rw [Launch.admits_selectMethod X.admits]; exact q4
  obtain ⟨vm₁, X₁, hstep₁⟩ := X.invokevirtual hexec hown hlink hnamed hmethM hstM hkP hkPi hy (a := b) (cell := cellB) hcell
    (fun z h => by rw [h] at hobj; cases hobj) hselP hmethM habM hkP hkPi (g := g) hg (argsL := argsL) (rest := rest) (hlen _ hsigM) hstack hdg
  rcases hK m meth c ⟨T.setVm vm₁, locs, cells, slots⟩ { g with stack := rest } (.invokevirtual index) mk (Value.ref b :: argsL).toArray X₁ hg hsize hdg hW (X₁.named hnamed) (hpre vm₁ X₁.warmed) with ⟨v, B, X', hpost, hsteps⟩ | ⟨q, B, X', hpost, hsteps⟩
  · exact Or.inl ⟨v, vm₁, B, X₁.warmed, X', hpost, fun target h => hstep₁ _ fun acts => by rw [doInvoke_state]; exact hsteps.trans h⟩
  · exact Or.inr ⟨q, vm₁, B, X₁.warmed, X', hpost, hstep₁ _ fun acts => by rw [doInvoke_state]; exact hsteps⟩
theorem vx_callSX (X : Stand p l e R s m args below meth c T locs cells slots) (hexec : p.tables.exec = Jvm.exec) {own : String} {index : Nat} {y : MethodName} {bytes : ByteArray} {maxL : Nat} {ret : Option FieldType} {hh : List (Nat × Nat × Nat × Nat)}
    (hown : s.vm.findClass own = some m.cls) (hlink : (Cond.methodLink own index y).before args s = true) (hstat : (Cond.static y).before args s = true) (hinit : (Cond.initialized y.cls).before args s = true)
    (hcode : (Cond.codeWith y bytes maxL ret hh).before args s = true) (hy : y.cls ≠ "java/lang/invoke/MethodHandle" ∧ y.cls ≠ "java/lang/invoke/VarHandle")
    {W9 : Nat} {Pre : Pt → Array Value → Prop} {Post : Pt → Array Value → Option Value → Pt → Prop} {PostX : Pt → Array Value → Addr → Pt → Prop} (hK : vx_Back l R p e below s args y 3 W9 Pre Post PostX)
    {g : JFrame} (hg : g.method = m) (hsize : g.locals.size = c.maxLocals) {argsL rest : List Value} (hlen : ∀ sig, parseMethodDescriptor y.desc = some sig → argsL.length = sig.parameters.length)
    (hstack : g.stack = argsL.reverse ++ rest) (hW : 2 * g.monitorRoom + (rest.map fun v => v.category).sum ≤ W9) (hdg : decode c.code g.pc = .ok (.invokestatic index, 3))
    (hpre : ∀ vm₁, s.WarmedH vm₁ → Pre ⟨T.setVm vm₁, locs, cells, slots⟩ argsL.toArray) :
    (∃ (v : Option Value) (vm₁ : Vm) (B : Pt), s.WarmedH vm₁ ∧ Stand p l e R s m args below meth c B.U B.locs B.cells B.slots ∧ Post ⟨T.setVm vm₁, locs, cells, slots⟩ argsL.toArray v B ∧
      ∀ target, Steps p.tables e below (B.U.setTop { g with pc := g.pc + 3, stack := v.toList ++ rest }) target → Steps p.tables e below (T.setTop g) target) ∨
    (∃ (q : Addr) (vm₁ : Vm) (B : Pt), s.WarmedH vm₁ ∧ Stand p l e R s m args below meth c B.U B.locs B.cells B.slots ∧ PostX ⟨T.setVm vm₁, locs, cells, slots⟩ argsL.toArray q B ∧
      Steps p.tables e below (T.setTop g) ((B.U.setTop { g with stack := rest }).pushFrame (.throwing q))) := by
  obtain ⟨mk, methM, cM, hnamed, hmethM, -, -, -, -, -, -, hsigM⟩ := Cond.codeWith_spec hcode
  have hstatic : methM.isStatic = true := Cond.static_spec hnamed hmethM hstat
  obtain ⟨kP, hkP, -⟩ := className_of_methodNamed hnamed
  have hinitP : kP.init = .initialized := Cond.initialized_spec (findClass_of_methodNamed hnamed) hkP hinit
  obtain ⟨vm₁, X₁, hstep₁⟩ := X.invokestatic hexec hown hlink hnamed hmethM hstatic hkP hinitP hy (g := g) hg (argsL := argsL) (rest := rest) (hlen _ hsigM) hstack hdg
  rcases hK m meth c ⟨T.setVm vm₁, locs, cells, slots⟩ { g with stack := rest } (.invokestatic index) mk argsL.toArray X₁ hg hsize hdg hW (X₁.named hnamed) (hpre vm₁ X₁.warmed) with ⟨v, B, X', hpost, hsteps⟩ | ⟨q, B, X', hpost, hsteps⟩
  · exact Or.inl ⟨v, vm₁, B, X₁.warmed, X', hpost, fun target h => hstep₁ _ fun acts => by rw [doInvoke_state]; exact hsteps.trans h⟩
  · exact Or.inr ⟨q, vm₁, B, X₁.warmed, X', hpost, hstep₁ _ fun acts => by rw [doInvoke_state]; exact hsteps⟩
theorem vx_callVW (X : Stand p l e R s m args below meth c T locs cells slots) (hexec : p.tables.exec = Jvm.exec) {own C : String} {index : Nat} {y : MethodName} {bytes : ByteArray} {maxL : Nat} {ret : Option FieldType} {hh : List (Nat × Nat × Nat × Nat)}
    (hown : s.vm.findClass own = some m.cls) (hlink : (Cond.methodLink own index y).before args s = true) (hinst : (Cond.instanceMethod y).before args s = true) (hsel : (Cond.selects C y y).before args s = true)
    (hcode : (Cond.codeWith y bytes maxL ret hh).before args s = true) (hy : y.cls ≠ "java/lang/invoke/MethodHandle" ∧ y.cls ≠ "java/lang/invoke/VarHandle")
    {W9 : Nat} {Pre : Pt → Array Value → Prop} {Post : Pt → Array Value → Option Value → Pt → Prop} (hK : Back l R p e below s args y 3 W9 Pre Post)
    {b : Addr} {cellB : Cell} (hcell : T.heap[b]? = some cellB) (hobj : cellB.vm.isStatics = false) (hcls : s.vm.findClass C = some cellB.cls)
    {g : JFrame} (hg : g.method = m) (hsize : g.locals.size = c.maxLocals) {argsL rest : List Value} (hlen : ∀ sig, parseMethodDescriptor y.desc = some sig → argsL.length = sig.parameters.length)
    (hstack : g.stack = argsL.reverse ++ .ref b :: rest) (hW : 2 * g.monitorRoom + (rest.map fun v => v.category).sum ≤ W9) (hdg : decode c.code g.pc = .ok (.invokevirtual index, 3))
    (hpre : ∀ vm₁, s.WarmedH vm₁ → Pre ⟨T.setVm vm₁, locs, cells, slots⟩ (Value.ref b :: argsL).toArray) :
    ∃ (v : Option Value) (vm₁ : Vm) (B : Pt), s.WarmedH vm₁ ∧ Stand p l e R s m args below meth c B.U B.locs B.cells B.slots ∧ Post ⟨T.setVm vm₁, locs, cells, slots⟩ (Value.ref b :: argsL).toArray v B ∧
      ∀ target, Steps p.tables e below (B.U.setTop { g with pc := g.pc + 3, stack := v.toList ++ rest }) target → Steps p.tables e below (T.setTop g) target := by
  obtain ⟨mk, methM, hnamed, hmethM, hstM, habM⟩ := Cond.instanceMethod_spec hinst
  obtain ⟨m8, methM', cM, hn8, hmethM', -, -, -, -, -, -, hsigM⟩ := Cond.codeWith_spec hcode
  cases Option.some.inj (hn8.symm.trans hnamed)
  cases hmethM.symm.trans hmethM'
  obtain ⟨c2, r2, m2, q1, q2, q3, q4, kP, hkP, hkPi⟩ := Cond.selects_spec hsel
  cases hcls.symm.trans q1
  cases (State.methodFound?_of_named hnamed hy).symm.trans q2
  cases hnamed.symm.trans q3
  have hselP : selectMethod e.platform s.vm cellB.cls mk = .method mk := by rw [Launch.admits_selectMethod X.admits]; exact q4
  obtain ⟨vm₁, X₁, hstep₁⟩ := X.invokevirtual hexec hown hlink hnamed hmethM hstM hkP hkPi hy (a := b) (cell := cellB) hcell
    (fun z h => by rw [h] at hobj; cases hobj) hselP hmethM habM hkP hkPi (g := g) hg (argsL := argsL) (rest := rest) (hlen _ hsigM) hstack hdg
  obtain ⟨v, B, X', hpost, hsteps⟩ := hK m meth c ⟨T.setVm vm₁, locs, cells, slots⟩ { g with stack := rest } (.invokevirtual index) mk (Value.ref b :: argsL).toArray X₁ hg hsize hdg hW (X₁.named hnamed) (hpre vm₁ X₁.warmed)
  exact ⟨v, vm₁, B, X₁.warmed, X', hpost, fun target h => hstep₁ _ fun acts => by rw [doInvoke_state]; exact hsteps.trans h⟩
abbrev vx_CVW (R : Room) (s : State) (args : Array Value) (own C : String) (index : Nat) (y : MethodName) (bytes : ByteArray) (maxL : Nat) (ret : Option FieldType) (hh : List (Nat × Nat × Nat × Nat)) (ws : List Cond) (rm : Room) (mc ms n : Nat) : Prop :=
  (rm.cells = mc ∧ rm.slots = ms ∧ rm.frames + 1 ≤ R.frames ∧ 8 + (maxL + 11) + rm.locals ≤ R.locals ∧ (∀ w ∈ ws, ∀ (a' : Array Value) (U : State), s.WarmedH U.vm → w.before a' U = true) ∧ Cond.codeWith y bytes maxL ret hh ∈ ws) ∧
  (Cond.codeWith y bytes maxL ret hh).before args s = true ∧ (Cond.initialized y.cls).before args s = true ∧ (y.cls ≠ "java/lang/invoke/MethodHandle" ∧ y.cls ≠ "java/lang/invoke/VarHandle") ∧
  (∀ sig, parseMethodDescriptor y.desc = some sig → n = sig.parameters.length) ∧ (Cond.methodLink own index y).before args s = true ∧ (Cond.instanceMethod y).before args s = true ∧ (Cond.selects C y y).before args s = true
theorem vx_cwVW {own C : String} {index maxL mc ms : Nat} {y : MethodName} {bytes : ByteArray} {ret : Option FieldType} {hh : List (Nat × Nat × Nat × Nat)} {Ts ws ws' : List Cond} {rm : Room} (n : Nat) (ht : ∀ w ∈ Ts, w.before args s = true) (hT : GoodIn Ts (wsV own index C y ws)) (hw : ws = Cond.codeWith y bytes maxL ret hh :: ws') (hrc : rm.cells = mc) (hrs : rm.slots = ms)
    (hd : y.cls = C ∧ y.cls ≠ "java/lang/invoke/MethodHandle" ∧ y.cls ≠ "java/lang/invoke/VarHandle" ∧ (parseMethodDescriptor y.desc).map (fun d => d.parameters.length) = some n) (hR : rm.frames + 1 ≤ R.frames ∧ 8 + (maxL + 11) + rm.locals ≤ R.locals) :
    vx_CVW R s args own C index y bytes maxL ret hh ws rm mc ms n := by
  obtain ⟨hC, hd⟩ := hd
  subst hC
  have ok : ∀ w ∈ wsV own index y.cls y ws, w.before args s = true := fun w h => ht w (hT w h).1
  have hG : GoodIn Ts ws := fun w h => hT w (by unfold wsV; exact List.mem_append_right _ h)
  have hc : Cond.codeWith y bytes maxL ret hh ∈ ws := by rw [hw]; exact List.mem_cons_self
  refine ⟨⟨hrc, hrs, hR.1, hR.2, pay_in ht hG, hc⟩, ht _ (hG _ hc).1, ok _ (by simp [wsV]), ⟨hd.1, hd.2.1⟩, fun sig h => ?_, ok _ (by simp [wsV]), ok _ (by simp [wsV]), ok _ (by simp [wsV])⟩
  have h2 := hd.2.2
  rw [h] at h2
  exact (Option.some.inj h2).symm
theorem vx_runVW {y : MethodName} {bytes cc : ByteArray} {maxL nL mc ms n index : Nat} {ret : Option FieldType} {hh : List (Nat × Nat × Nat × Nat)} {ws : List Cond} {rm : Room} {Pc : Array Value → State → Prop} {Qc : Array Value → State → Outcome → State → Prop} {free : Addr → Prop} {Ts : List Cond} {own C : String} {b : Addr} {As rest : List Value} {g : JFrame}
    (S : CallFix p m c cc nL s args Ts own) (hM : Met l y ws rm Pc Qc mc ms free) (cw : vx_CVW R s args own C index y bytes maxL ret hh ws rm mc ms n) (hp : PreV s H C b Pc As)
    (hg : g.method = m) (hn : As.length = n) (hsize : g.locals.size = nL) (hstack : g.stack = As.reverse ++ .ref b :: rest) (hW : 2 * g.monitorRoom + (rest.map fun v => v.category).sum ≤ 8) (hdg : decode cc g.pc = .ok (.invokevirtual index, 3)) (hf : cells + mc ≤ R.cells ∧ slots + ms ≤ R.slots) :
    va_Run p l e R s m args below meth c H locs cells slots mc ms g rest (Qc (Value.ref b :: As).toArray) free := by
  obtain ⟨⟨hrc, hrs, hfr, hlo, hws, hcw⟩, hcode, hini, hy, hlen, hl, hin, hse⟩ := cw
  have hK : Back l R p e below s args y 3 8 (PreOf R mc ms Pc) (PostOf Qc mc ms free) := va_backW (hh := hh) (bytes := bytes) (maxL := maxL) (ret := ret) hM hp.1 hrc hrs hfr hlo hws hcw (fun a' U hW => word_at hW (Or.inl (by first | rfl | simp [Cond.onTables, Cond.keeps, Cond.steady])) hini)
  obtain ⟨hx, hb, hml, ho, -⟩ := S
  obtain ⟨-, ⟨cellB, hcB, hoB, hclB⟩, hPc⟩ := hp
  intro T hT X
  obtain ⟨v, vm₁, ⟨U', l2, c2, s2⟩, hW₁, X', ⟨g', mk, t, L, e1, e2, hq, h1, hL, h2, h3⟩, st⟩ := vx_callVW X hx (C := C) (hh := hh) (bytes := bytes) (maxL := maxL) (ret := ret) ho hl hin hse hcode hy hK (by rw [hT]; exact hcB) hoB hclB hg (hsize.trans hml.symm) (argsL := As) (rest := rest) (fun sig h => hn.trans (hlen sig h)) hstack hW (by rw [hb]; exact hdg)
    (fun vm₁ hW₁ => ⟨hf.1, hf.2, hPc (T.setVm vm₁) hT hW₁⟩)
  dsimp only [Pt.U, Pt.locs, Pt.cells, Pt.slots] at X' e1 e2 h1 h2 h3 st
  subst h1; subst h2; subst h3
  exact ⟨v, (T.setVm vm₁).calling g' mk (Value.ref b :: As).toArray, t, U', L, hT, X', hL, e1, e2, hq, st⟩
section
variable {y : MethodName} {bytes cc : ByteArray} {maxL nL mc ms n index : Nat} {ret : Option FieldType} {ws : List Cond} {rm : Room} {Pc : Array Value → State → Prop} {Qc : Array Value → State → Outcome → State → Prop} {XC : String → State → State → Prop} {free : Addr → Prop} {Ts : List Cond} {own C : String} {b : Addr} {As rest : List Value} {g : JFrame}
theorem vx_runVX {hh : List (Nat × Nat × Nat × Nat)} (S : CallFix p m c cc nL s args Ts own) (hM : vx_Met l y ws rm Pc Qc XC mc ms free) (cw : vx_CVW R s args own C index y bytes maxL ret hh ws rm mc ms n) (hp : PreV s H C b Pc As)
    (hg : g.method = m) (hn : As.length = n) (hsize : g.locals.size = nL) (hstack : g.stack = As.reverse ++ .ref b :: rest) (hW : 2 * g.monitorRoom + (rest.map fun v => v.category).sum ≤ 8) (hdg : decode cc g.pc = .ok (.invokevirtual index, 3)) (hf : cells + mc ≤ R.cells ∧ slots + ms ≤ R.slots) :
    vx_Run p l e R s m args below meth c H locs cells slots mc ms g rest (Qc (Value.ref b :: As).toArray) XC free := by
  obtain ⟨⟨hrc, hrs, hfr, hlo, hws, hcw⟩, hcode, hini, hy, hlen, hl, hin, hse⟩ := cw
  have hK : vx_Back l R p e below s args y 3 8 (PreOf R mc ms Pc) (PostOf Qc mc ms free) (vx_Post XC mc ms free) := vx_backW (hh := hh) (bytes := bytes) (maxL := maxL) (ret := ret) hM hp.1 hrc hrs hfr hlo hws hcw (fun a' U hW => word_at hW (Or.inl (by first | rfl | simp [Cond.onTables, Cond.keeps, Cond.steady])) hini)
  obtain ⟨hx, hb, hml, ho, -⟩ := S
  obtain ⟨-, ⟨cellB, hcB, hoB, hclB⟩, hPc⟩ := hp
  intro T hT X
  rcases vx_callVX X hx (C := C) (hh := hh) (bytes := bytes) (maxL := maxL) (ret := ret) ho hl hin hse hcode hy hK (by rw [hT]; exact hcB) hoB hclB hg (hsize.trans hml.symm) (argsL := As) (rest := rest) (fun sig h => hn.trans (hlen sig h)) hstack hW (by rw [hb]; exact hdg)
    (fun vm₁ hW₁ => ⟨hf.1, hf.2, hPc (T.setVm vm₁) hT hW₁⟩) with ⟨v, vm₁, ⟨U', l2, c2, s2⟩, hW₁, X', ⟨g', mk, t, L, e1, e2, hq, h1, hL, h2, h3⟩, st⟩ | ⟨q, vm₁, ⟨U', l2, c2, s2⟩, hW₁, X', ⟨g', mk, t, L, E, ce, e1, e2, hq, hce, hcv, hcl, h1, hL, h2, h3⟩, st⟩
  · dsimp only [Pt.U, Pt.locs, Pt.cells, Pt.slots] at X' e1 e2 h1 h2 h3 st
    subst h1; subst h2; subst h3
    exact Or.inl ⟨v, (T.setVm vm₁).calling g' mk (Value.ref b :: As).toArray, t, U', L, hT, X', hL, e1, e2, hq, st⟩
  · dsimp only [Pt.U, Pt.locs, Pt.cells, Pt.slots] at X' e1 e2 h1 h2 h3 st hcl
    subst h1; subst h2; subst h3
    exact Or.inr ⟨q, (T.setVm vm₁).calling g' mk (Value.ref b :: As).toArray, t, U', L, E, ce, hT, X', hL, e1, e2, hq, hce, hcv, vx_cls hW₁ hcl, st⟩
theorem vx_runSX {hh : List (Nat × Nat × Nat × Nat)} (S : CallFix p m c cc nL s args Ts own) (hM : vx_Met l y ws rm Pc Qc XC mc ms free) (cw : vx_CSW R s args own index y bytes maxL ret hh ws rm mc ms n) (hp : PreS s H Pc As)
    (hg : g.method = m) (hn : As.length = n) (hsize : g.locals.size = nL) (hstack : g.stack = As.reverse ++ rest) (hW : 2 * g.monitorRoom + (rest.map fun v => v.category).sum ≤ 8) (hdg : decode cc g.pc = .ok (.invokestatic index, 3)) (hf : cells + mc ≤ R.cells ∧ slots + ms ≤ R.slots) :
    vx_Run p l e R s m args below meth c H locs cells slots mc ms g rest (Qc As.toArray) XC free := by
  obtain ⟨⟨hrc, hrs, hfr, hlo, hws, hcw⟩, hcode, hini, hy, hlen, hl, hstt⟩ := cw
  have hK : vx_Back l R p e below s args y 3 8 (PreOf R mc ms Pc) (PostOf Qc mc ms free) (vx_Post XC mc ms free) := vx_backW (hh := hh) (bytes := bytes) (maxL := maxL) (ret := ret) hM hp.1 hrc hrs hfr hlo hws hcw (fun a' U hW => word_at hW (Or.inl (by first | rfl | simp [Cond.onTables, Cond.keeps, Cond.steady])) hini)
  obtain ⟨hx, hb, hml, ho, -⟩ := S
  intro T hT X
  rcases vx_callSX X hx (hh := hh) (bytes := bytes) (maxL := maxL) (ret := ret) ho hl hstt hini hcode hy hK hg (hsize.trans hml.symm) (argsL := As) (rest := rest) (fun sig h => hn.trans (hlen sig h)) hstack hW (by rw [hb]; exact hdg)
    (fun vm₁ hW₁ => ⟨hf.1, hf.2, hp.2 (T.setVm vm₁) hT hW₁⟩) with ⟨v, vm₁, ⟨U', l2, c2, s2⟩, hW₁, X', ⟨g', mk, t, L, e1, e2, hq, h1, hL, h2, h3⟩, st⟩ | ⟨q, vm₁, ⟨U', l2, c2, s2⟩, hW₁, X', ⟨g', mk, t, L, E, ce, e1, e2, hq, hce, hcv, hcl, h1, hL, h2, h3⟩, st⟩
  · dsimp only [Pt.U, Pt.locs, Pt.cells, Pt.slots] at X' e1 e2 h1 h2 h3 st
    subst h1; subst h2; subst h3
    exact Or.inl ⟨v, (T.setVm vm₁).calling g' mk As.toArray, t, U', L, hT, X', hL, e1, e2, hq, st⟩
  · dsimp only [Pt.U, Pt.locs, Pt.cells, Pt.slots] at X' e1 e2 h1 h2 h3 st hcl
    subst h1; subst h2; subst h3
    exact Or.inr ⟨q, (T.setVm vm₁).calling g' mk As.toArray, t, U', L, E, ce, hT, X', hL, e1, e2, hq, hce, hcv, vx_cls hW₁ hcl, st⟩
end
end VXH
theorem vx_ofWH {l : Launch} {y : MethodName} {ws ws' : List Cond} {rm : Room} {Pc : Array Value → State → Prop} {Qc : Array Value → State → Outcome → State → Prop} {XC : String → State → State → Prop} {mc ms : Nat} {free : Addr → Prop} {cc : ByteArray} {maxL : Nat} {ret : Option FieldType} {hh : List (Nat × Nat × Nat × Nat)}
    (hy : plainName y.cls = true) (hw : ws = Cond.codeWith y cc maxL ret hh :: ws')
    (body : ∀ p e s m args below meth c s₁, BodyLoose p l y (headSpec ws rm) cc maxL ret e s m args below meth c s₁ → c.maxLocals = maxL → Pc args s →
      W p l e (headSpec ws rm).room s m args below meth c s.heap [] 0 0 (vx_MQ below Qc XC args s mc ms free) (entryFrame m args maxL)) : vx_Met l y ws rm Pc Qc XC mc ms free := by
  refine MetFree.of_bodyS (code := cc) (maxLocals := maxL) (ret := ret) hy ?_ ?_
  · intro args s m h hn
    obtain ⟨m9, meth, c, hn9, h1, h2, h3, h4, -, h5, h6, -⟩ := Cond.codeWith_spec (atoms_spec (ws := ws) h _ (by rw [hw]; exact List.mem_cons_self))
    cases hn.symm.trans hn9
    exact ⟨meth, c, h1, h2, h3, h4, h5, h6⟩
  · intro p e s m args below meth c s₁ B hml hP _
    have hh0 : s₁.heap = s.heap := by rw [B.state]; rfl
    obtain ⟨t, a1, o, b1, b2, b3⟩ := body p e s m args below meth c s₁ B hml hP s₁ hh0 (Stand.of_body B)
    exact ⟨t, o, a1, b1, b2, b3⟩
/-! ===== END ===== -/
end
section
def RX0 : String := "StatementRules2$Code"
def TX0 : u_T := fun k => match k with
  | 0 => ("StatementRules2$Code", "ops", "[I", true)
  | 1 => ("StatementRules2$Code", "arguments", "[I", true)
  | 2 => ("StatementRules2$Code", "targets", "[I", true)
  | 3 => ("StatementRules2$Code", "caseValues", "[I", true)
  | 4 => ("StatementRules2$Code", "caseTargets", "[I", true)
  | 5 => ("StatementRules2$Code", "size", "I", false)
  | 6 => ("StatementRules2$Code", "targetCount", "I", false)
  | 7 => ("StatementRules2$Code", "caseCount", "I", false)
  | 8 => ("StatementRules2$Code", "cellCount", "I", false)
  | 9 => ("StatementRules2$Code", "statements", "I", false)
  | 10 => ("StatementRules2$Code", "toldNames", "I", false)
  | 11 => ("StatementRules2$Code", "jumps", "I", false)
  | _ => ("StatementRules2$Code", "endReached", "Z", false)
def tyX0 : Nat → FieldType := fun k => match k with
  | 0 => .array .int
  | 1 => .array .int
  | 2 => .array .int
  | 3 => .array .int
  | 4 => .array .int
  | 5 => .int
  | 6 => .int
  | 7 => .int
  | 8 => .int
  | 9 => .int
  | 10 => .int
  | 11 => .int
  | _ => .boolean
abbrev wsX00 : List Cond := u_ws RX0 TX0 13
theorem nmX0 : ∀ a, a < 13 → ∀ b, b < 13 → a ≠ b → (TX0 a).2.1 ≠ (TX0 b).2.1 := by decide +kernel
theorem tyX0_ok : ∀ k, k < 13 → parseFieldDescriptor (TX0 k).2.2.1 = some (tyX0 k) := by decide +kernel
abbrev cX0_init : ByteArray := prog_2_method_1_code
def yX0_init : MethodName := ⟨RX0, "<init>", "()V"⟩
abbrev cX0_clear : ByteArray := prog_2_method_2_code
def yX0_clear : MethodName := ⟨RX0, "clear", "()V"⟩
abbrev cX0_add : ByteArray := prog_2_method_3_code
def yX0_add : MethodName := ⟨RX0, "add", "(II)V"⟩
abbrev cX0_newTarget : ByteArray := prog_2_method_4_code
def yX0_newTarget : MethodName := ⟨RX0, "newTarget", "()I"⟩
abbrev cX0_aim : ByteArray := prog_2_method_5_code
def yX0_aim : MethodName := ⟨RX0, "aim", "(I)V"⟩
abbrev cX0_newCells : ByteArray := prog_2_method_6_code
def yX0_newCells : MethodName := ⟨RX0, "newCells", "(I)I"⟩
abbrev cX0_hasCase : ByteArray := prog_2_method_7_code
def yX0_hasCase : MethodName := ⟨RX0, "hasCase", "(II)Z"⟩
abbrev cX0_addCase : ByteArray := prog_2_method_8_code
def yX0_addCase : MethodName := ⟨RX0, "addCase", "(II)V"⟩
abbrev cX0_addCases : ByteArray := prog_2_method_9_code
def yX0_addCases : MethodName := ⟨RX0, "addCases", "(II)V"⟩
def RX1 : String := "StatementRules2$Formulas"
def TX1 : u_T := fun k => match k with
  | _ => ("", "", "", false)
def tyX1 : Nat → FieldType := fun k => match k with
  | _ => .int
abbrev wsX10 : List Cond := u_ws RX1 TX1 0
theorem nmX1 : ∀ a, a < 0 → ∀ b, b < 0 → a ≠ b → (TX1 a).2.1 ≠ (TX1 b).2.1 := by decide +kernel
theorem tyX1_ok : ∀ k, k < 0 → parseFieldDescriptor (TX1 k).2.2.1 = some (tyX1 k) := by decide +kernel
abbrev cX1_init : ByteArray := prog_3_method_1_code
def yX1_init : MethodName := ⟨RX1, "<init>", "(LStatementRules2$Tokens;LStatementRules2$Code;LStatementRules2$Told;)V"⟩
abbrev cX1_fail : ByteArray := prog_3_method_3_code
def yX1_fail : MethodName := ⟨RX1, "fail", "(II)V"⟩
abbrev cX1_misplaced : ByteArray := prog_3_method_4_code
def yX1_misplaced : MethodName := ⟨RX1, "misplaced", "()V"⟩
abbrev cX1_found : ByteArray := prog_3_method_5_code
def yX1_found : MethodName := ⟨RX1, "found", "(I)Z"⟩
abbrev cX1_skip : ByteArray := prog_3_method_6_code
def yX1_skip : MethodName := ⟨RX1, "skip", "(I)Z"⟩
abbrev cX1_expect : ByteArray := prog_3_method_7_code
def yX1_expect : MethodName := ⟨RX1, "expect", "(I)V"⟩
abbrev cX1_open : ByteArray := prog_3_method_8_code
def yX1_open : MethodName := ⟨RX1, "open", "(I)V"⟩
abbrev cX1_close : ByteArray := prog_3_method_9_code
def yX1_close : MethodName := ⟨RX1, "close", "(I)V"⟩
abbrev cX1_expression : ByteArray := prog_3_method_10_code
def yX1_expression : MethodName := ⟨RX1, "expression", "()V"⟩
abbrev cX1_product : ByteArray := prog_3_method_11_code
def yX1_product : MethodName := ⟨RX1, "product", "()V"⟩
abbrev cX1_factor : ByteArray := prog_3_method_12_code
def yX1_factor : MethodName := ⟨RX1, "factor", "()V"⟩
abbrev cX1_loadName : ByteArray := prog_3_method_13_code
def yX1_loadName : MethodName := ⟨RX1, "loadName", "()V"⟩
abbrev cX1_negated : ByteArray := prog_3_method_14_code
def yX1_negated : MethodName := ⟨RX1, "negated", "()V"⟩
abbrev cX1_choice : ByteArray := prog_3_method_15_code
def yX1_choice : MethodName := ⟨RX1, "choice", "()V"⟩
abbrev cX1_arm : ByteArray := prog_3_method_16_code
def yX1_arm : MethodName := ⟨RX1, "arm", "(III)I"⟩
abbrev cX1_caseNumber : ByteArray := prog_3_method_17_code
def yX1_caseNumber : MethodName := ⟨RX1, "caseNumber", "(II)V"⟩
abbrev cX1_condition : ByteArray := prog_3_method_18_code
def yX1_condition : MethodName := ⟨RX1, "condition", "()Z"⟩
abbrev cX1_conjunction : ByteArray := prog_3_method_19_code
def yX1_conjunction : MethodName := ⟨RX1, "conjunction", "()Z"⟩
abbrev cX1_one : ByteArray := prog_3_method_20_code
def yX1_one : MethodName := ⟨RX1, "one", "()Z"⟩
abbrev cX1_comparison : ByteArray := prog_3_method_21_code
def yX1_comparison : MethodName := ⟨RX1, "comparison", "()V"⟩
abbrev cX1_comparing : ByteArray := prog_3_method_22_code
def yX1_comparing : MethodName := ⟨RX1, "comparing", "(I)I"⟩
def RX2 : String := "StatementRules2$Frame"
def TX2 : u_T := fun k => match k with
  | 0 => ("StatementRules2$Frame", "phase", "I", false)
  | 1 => ("StatementRules2$Frame", "argument", "I", false)
  | 2 => ("StatementRules2$Frame", "height", "I", false)
  | 3 => ("StatementRules2$Frame", "openedBefore", "I", false)
  | 4 => ("StatementRules2$Frame", "thrown", "LStatementRules2$Thrown;", false)
  | 5 => ("StatementRules2$Frame", "way", "I", false)
  | 6 => ("StatementRules2$Frame", "wayValue", "I", false)
  | _ => ("StatementRules2$Frame", "wayTarget", "I", false)
def tyX2 : Nat → FieldType := fun k => match k with
  | 0 => .int
  | 1 => .int
  | 2 => .int
  | 3 => .int
  | 4 => .object "StatementRules2$Thrown"
  | 5 => .int
  | 6 => .int
  | _ => .int
abbrev wsX20 : List Cond := u_ws RX2 TX2 8
theorem nmX2 : ∀ a, a < 8 → ∀ b, b < 8 → a ≠ b → (TX2 a).2.1 ≠ (TX2 b).2.1 := by decide +kernel
theorem tyX2_ok : ∀ k, k < 8 → parseFieldDescriptor (TX2 k).2.2.1 = some (tyX2 k) := by decide +kernel
abbrev cX2_init : ByteArray := prog_4_method_1_code
def yX2_init : MethodName := ⟨RX2, "<init>", "()V"⟩
def RX3 : String := "StatementRules2$Machine"
def TX3 : u_T := fun k => match k with
  | 0 => ("StatementRules2$Machine", "told", "LStatementRules2$Told;", true)
  | 1 => ("StatementRules2$Machine", "code", "LStatementRules2$Code;", true)
  | 2 => ("StatementRules2$Machine", "cells", "[I", true)
  | 3 => ("StatementRules2$Machine", "values", "[I", true)
  | 4 => ("StatementRules2$Machine", "frames", "[LStatementRules2$Frame;", true)
  | 5 => ("StatementRules2$Machine", "pool", "[LStatementRules2$Thrown;", true)
  | 6 => ("StatementRules2$Machine", "opened", "[I", true)
  | 7 => ("StatementRules2$Machine", "rows", "[I", true)
  | 8 => ("StatementRules2$Machine", "height", "I", false)
  | 9 => ("StatementRules2$Machine", "place", "I", false)
  | 10 => ("StatementRules2$Machine", "depth", "I", false)
  | 11 => ("StatementRules2$Machine", "openedCount", "I", false)
  | 12 => ("StatementRules2$Machine", "rowCount", "I", false)
  | 13 => ("StatementRules2$Machine", "steps", "I", false)
  | 14 => ("StatementRules2$Machine", "taken", "I", false)
  | 15 => ("StatementRules2$Machine", "outcome", "I", false)
  | 16 => ("StatementRules2$Machine", "way", "I", false)
  | 17 => ("StatementRules2$Machine", "wayValue", "I", false)
  | 18 => ("StatementRules2$Machine", "wayTarget", "I", false)
  | _ => ("StatementRules2$Machine", "wayThrown", "LStatementRules2$Thrown;", false)
def tyX3 : Nat → FieldType := fun k => match k with
  | 0 => .object "StatementRules2$Told"
  | 1 => .object "StatementRules2$Code"
  | 2 => .array .int
  | 3 => .array .int
  | 4 => .array (.object "StatementRules2$Frame")
  | 5 => .array (.object "StatementRules2$Thrown")
  | 6 => .array .int
  | 7 => .array .int
  | 8 => .int
  | 9 => .int
  | 10 => .int
  | 11 => .int
  | 12 => .int
  | 13 => .int
  | 14 => .int
  | 15 => .int
  | 16 => .int
  | 17 => .int
  | 18 => .int
  | _ => .object "StatementRules2$Thrown"
abbrev wsX30 : List Cond := u_ws RX3 TX3 20
theorem nmX3 : ∀ a, a < 20 → ∀ b, b < 20 → a ≠ b → (TX3 a).2.1 ≠ (TX3 b).2.1 := by decide +kernel
theorem tyX3_ok : ∀ k, k < 20 → parseFieldDescriptor (TX3 k).2.2.1 = some (tyX3 k) := by decide +kernel
abbrev cX3_init : ByteArray := prog_5_method_1_code
def yX3_init : MethodName := ⟨RX3, "<init>", "(LStatementRules2$Told;LStatementRules2$Code;)V"⟩
abbrev cX3_perform : ByteArray := prog_5_method_2_code
def yX3_perform : MethodName := ⟨RX3, "perform", "(II)I"⟩
abbrev cX3_answer : ByteArray := prog_5_method_3_code
def yX3_answer : MethodName := ⟨RX3, "answer", "(I)I"⟩
abbrev cX3_lastThrown : ByteArray := prog_5_method_4_code
def yX3_lastThrown : MethodName := ⟨RX3, "lastThrown", "()LStatementRules2$Thrown;"⟩
abbrev cX3_instruction : ByteArray := prog_5_method_5_code
def yX3_instruction : MethodName := ⟨RX3, "instruction", "()V"⟩
abbrev cX3_push : ByteArray := prog_5_method_6_code
def yX3_push : MethodName := ⟨RX3, "push", "(I)V"⟩
abbrev cX3_pop : ByteArray := prog_5_method_7_code
def yX3_pop : MethodName := ⟨RX3, "pop", "()I"⟩
abbrev cX3_move : ByteArray := prog_5_method_8_code
def yX3_move : MethodName := ⟨RX3, "move", "(II)V"⟩
abbrev cX3_combine : ByteArray := prog_5_method_9_code
def yX3_combine : MethodName := ⟨RX3, "combine", "(I)V"⟩
abbrev cX3_divide : ByteArray := prog_5_method_10_code
def yX3_divide : MethodName := ⟨RX3, "divide", "(III)V"⟩
abbrev cX3_compares : ByteArray := prog_5_method_11_code
def yX3_compares : MethodName := ⟨RX3, "compares", "(III)Z"⟩
abbrev cX3_steer : ByteArray := prog_5_method_12_code
def yX3_steer : MethodName := ⟨RX3, "steer", "(II)V"⟩
abbrev cX3_goIf : ByteArray := prog_5_method_13_code
def yX3_goIf : MethodName := ⟨RX3, "goIf", "(ZI)V"⟩
abbrev cX3_keep : ByteArray := prog_5_method_14_code
def yX3_keep : MethodName := ⟨RX3, "keep", "(ZI)V"⟩
abbrev cX3_compareCase : ByteArray := prog_5_method_15_code
def yX3_compareCase : MethodName := ⟨RX3, "compareCase", "(I)V"⟩
abbrev cX3_fillRow : ByteArray := prog_5_method_16_code
def yX3_fillRow : MethodName := ⟨RX3, "fillRow", "(I)V"⟩
abbrev cX3_act : ByteArray := prog_5_method_17_code
def yX3_act : MethodName := ⟨RX3, "act", "(II)V"⟩
abbrev cX3_step : ByteArray := prog_5_method_18_code
def yX3_step : MethodName := ⟨RX3, "step", "()V"⟩
abbrev cX3_note : ByteArray := prog_5_method_19_code
def yX3_note : MethodName := ⟨RX3, "note", "(II)V"⟩
abbrev cX3_enter : ByteArray := prog_5_method_20_code
def yX3_enter : MethodName := ⟨RX3, "enter", "(II)V"⟩
abbrev cX3_frame : ByteArray := prog_5_method_21_code
def yX3_frame : MethodName := ⟨RX3, "frame", "(I)LStatementRules2$Frame;"⟩
abbrev cX3_openOne : ByteArray := prog_5_method_22_code
def yX3_openOne : MethodName := ⟨RX3, "openOne", "(I)V"⟩
abbrev cX3_turn : ByteArray := prog_5_method_23_code
def yX3_turn : MethodName := ⟨RX3, "turn", "(II)V"⟩
abbrev cX3_handle : ByteArray := prog_5_method_24_code
def yX3_handle : MethodName := ⟨RX3, "handle", "(IILStatementRules2$Frame;)V"⟩
abbrev cX3_go : ByteArray := prog_5_method_25_code
def yX3_go : MethodName := ⟨RX3, "go", "(III)V"⟩
abbrev cX3_raise : ByteArray := prog_5_method_26_code
def yX3_raise : MethodName := ⟨RX3, "raise", "(II)V"⟩
abbrev cX3_throwAgain : ByteArray := prog_5_method_27_code
def yX3_throwAgain : MethodName := ⟨RX3, "throwAgain", "(LStatementRules2$Frame;)V"⟩
abbrev cX3_freeThrown : ByteArray := prog_5_method_28_code
def yX3_freeThrown : MethodName := ⟨RX3, "freeThrown", "()LStatementRules2$Thrown;"⟩
abbrev cX3_isHeld : ByteArray := prog_5_method_29_code
def yX3_isHeld : MethodName := ⟨RX3, "isHeld", "(LStatementRules2$Thrown;)Z"⟩
abbrev cX3_resume : ByteArray := prog_5_method_30_code
def yX3_resume : MethodName := ⟨RX3, "resume", "(LStatementRules2$Frame;)V"⟩
abbrev cX3_leaveOne : ByteArray := prog_5_method_31_code
def yX3_leaveOne : MethodName := ⟨RX3, "leaveOne", "()V"⟩
abbrev cX3_arrive : ByteArray := prog_5_method_32_code
def yX3_arrive : MethodName := ⟨RX3, "arrive", "()V"⟩
abbrev cX3_leaveBody : ByteArray := prog_5_method_33_code
def yX3_leaveBody : MethodName := ⟨RX3, "leaveBody", "(LStatementRules2$Frame;)V"⟩
abbrev cX3_closeOne : ByteArray := prog_5_method_34_code
def yX3_closeOne : MethodName := ⟨RX3, "closeOne", "(I)V"⟩
abbrev cX3_enterFinally : ByteArray := prog_5_method_35_code
def yX3_enterFinally : MethodName := ⟨RX3, "enterFinally", "(LStatementRules2$Frame;)V"⟩
abbrev cX3_begin : ByteArray := prog_5_method_36_code
def yX3_begin : MethodName := ⟨RX3, "begin", "(LStatementRules2$Frame;I)V"⟩
def RX4 : String := "StatementRules2$Names"
def TX4 : u_T := fun k => match k with
  | 0 => ("StatementRules2$Names", "names", "[J", true)
  | 1 => ("StatementRules2$Names", "cells", "[I", true)
  | 2 => ("StatementRules2$Names", "frames", "[I", true)
  | _ => ("StatementRules2$Names", "count", "I", false)
def tyX4 : Nat → FieldType := fun k => match k with
  | 0 => .array .long
  | 1 => .array .int
  | 2 => .array .int
  | _ => .int
abbrev wsX40 : List Cond := u_ws RX4 TX4 4
theorem nmX4 : ∀ a, a < 4 → ∀ b, b < 4 → a ≠ b → (TX4 a).2.1 ≠ (TX4 b).2.1 := by decide +kernel
theorem tyX4_ok : ∀ k, k < 4 → parseFieldDescriptor (TX4 k).2.2.1 = some (tyX4 k) := by decide +kernel
abbrev cX4_init : ByteArray := prog_6_method_1_code
def yX4_init : MethodName := ⟨RX4, "<init>", "()V"⟩
abbrev cX4_find : ByteArray := prog_6_method_2_code
def yX4_find : MethodName := ⟨RX4, "find", "(J)I"⟩
abbrev cX4_add : ByteArray := prog_6_method_3_code
def yX4_add : MethodName := ⟨RX4, "add", "(JII)V"⟩
abbrev cX4_cellOf : ByteArray := prog_6_method_4_code
def yX4_cellOf : MethodName := ⟨RX4, "cellOf", "(I)I"⟩
abbrev cX4_frameOf : ByteArray := prog_6_method_5_code
def yX4_frameOf : MethodName := ⟨RX4, "frameOf", "(I)I"⟩
abbrev cX4_isCaught : ByteArray := prog_6_method_6_code
def yX4_isCaught : MethodName := ⟨RX4, "isCaught", "(I)Z"⟩
def RX5 : String := "StatementRules2$Open"
def TX5 : u_T := fun k => match k with
  | 0 => ("StatementRules2$Open", "sort", "I", false)
  | 1 => ("StatementRules2$Open", "serial", "I", false)
  | 2 => ("StatementRules2$Open", "depth", "I", false)
  | 3 => ("StatementRules2$Open", "namesBefore", "I", false)
  | 4 => ("StatementRules2$Open", "label", "J", false)
  | 5 => ("StatementRules2$Open", "begun", "Z", false)
  | 6 => ("StatementRules2$Open", "ends", "Z", false)
  | 7 => ("StatementRules2$Open", "never", "Z", false)
  | 8 => ("StatementRules2$Open", "whole", "Z", false)
  | 9 => ("StatementRules2$Open", "exit", "I", false)
  | 10 => ("StatementRules2$Open", "next", "I", false)
  | 11 => ("StatementRules2$Open", "other", "I", false)
  | 12 => ("StatementRules2$Open", "caught", "I", false)
  | 13 => ("StatementRules2$Open", "firstCase", "I", false)
  | 14 => ("StatementRules2$Open", "firstJump", "I", false)
  | 15 => ("StatementRules2$Open", "finallyJump", "I", false)
  | _ => ("StatementRules2$Open", "outerArm", "I", false)
def tyX5 : Nat → FieldType := fun k => match k with
  | 0 => .int
  | 1 => .int
  | 2 => .int
  | 3 => .int
  | 4 => .long
  | 5 => .boolean
  | 6 => .boolean
  | 7 => .boolean
  | 8 => .boolean
  | 9 => .int
  | 10 => .int
  | 11 => .int
  | 12 => .int
  | 13 => .int
  | 14 => .int
  | 15 => .int
  | _ => .int
abbrev wsX50 : List Cond := u_ws RX5 TX5 17
theorem nmX5 : ∀ a, a < 17 → ∀ b, b < 17 → a ≠ b → (TX5 a).2.1 ≠ (TX5 b).2.1 := by decide +kernel
theorem tyX5_ok : ∀ k, k < 17 → parseFieldDescriptor (TX5 k).2.2.1 = some (tyX5 k) := by decide +kernel
abbrev cX5_init : ByteArray := prog_7_method_1_code
def yX5_init : MethodName := ⟨RX5, "<init>", "()V"⟩
abbrev cX5_isLoop : ByteArray := prog_7_method_2_code
def yX5_isLoop : MethodName := ⟨RX5, "isLoop", "()Z"⟩
abbrev cX5_hasOneBody : ByteArray := prog_7_method_3_code
def yX5_hasOneBody : MethodName := ⟨RX5, "hasOneBody", "()Z"⟩
def RX6 : String := "StatementRules2$Opens"
def TX6 : u_T := fun k => match k with
  | 0 => ("StatementRules2$Opens", "rows", "[LStatementRules2$Open;", true)
  | 1 => ("StatementRules2$Opens", "jumps", "[I", true)
  | 2 => ("StatementRules2$Opens", "count", "I", false)
  | 3 => ("StatementRules2$Opens", "serials", "I", false)
  | 4 => ("StatementRules2$Opens", "jumpCount", "I", false)
  | _ => ("StatementRules2$Opens", "arm", "I", false)
def tyX6 : Nat → FieldType := fun k => match k with
  | 0 => .array (.object "StatementRules2$Open")
  | 1 => .array .int
  | 2 => .int
  | 3 => .int
  | 4 => .int
  | _ => .int
abbrev wsX60 : List Cond := u_ws RX6 TX6 6
theorem nmX6 : ∀ a, a < 6 → ∀ b, b < 6 → a ≠ b → (TX6 a).2.1 ≠ (TX6 b).2.1 := by decide +kernel
theorem tyX6_ok : ∀ k, k < 6 → parseFieldDescriptor (TX6 k).2.2.1 = some (tyX6 k) := by decide +kernel
abbrev cX6_init : ByteArray := prog_8_method_1_code
def yX6_init : MethodName := ⟨RX6, "<init>", "()V"⟩
abbrev cX6_clear : ByteArray := prog_8_method_2_code
def yX6_clear : MethodName := ⟨RX6, "clear", "()V"⟩
abbrev cX6_push : ByteArray := prog_8_method_3_code
def yX6_push : MethodName := ⟨RX6, "push", "(III)LStatementRules2$Open;"⟩
abbrev cX6_pop : ByteArray := prog_8_method_4_code
def yX6_pop : MethodName := ⟨RX6, "pop", "()V"⟩
abbrev cX6_row : ByteArray := prog_8_method_5_code
def yX6_row : MethodName := ⟨RX6, "row", "(I)LStatementRules2$Open;"⟩
abbrev cX6_nearest : ByteArray := prog_8_method_6_code
def yX6_nearest : MethodName := ⟨RX6, "nearest", "(Z)I"⟩
abbrev cX6_labelled : ByteArray := prog_8_method_7_code
def yX6_labelled : MethodName := ⟨RX6, "labelled", "(J)I"⟩
abbrev cX6_loopBehind : ByteArray := prog_8_method_8_code
def yX6_loopBehind : MethodName := ⟨RX6, "loopBehind", "(I)I"⟩
abbrev cX6_addJump : ByteArray := prog_8_method_9_code
def yX6_addJump : MethodName := ⟨RX6, "addJump", "(LStatementRules2$Open;Z)V"⟩
abbrev cX6_isGoneTo : ByteArray := prog_8_method_10_code
def yX6_isGoneTo : MethodName := ⟨RX6, "isGoneTo", "(LStatementRules2$Open;Z)Z"⟩
abbrev cX6_jumpTo : ByteArray := prog_8_method_11_code
def yX6_jumpTo : MethodName := ⟨RX6, "jumpTo", "(LStatementRules2$Open;Z)I"⟩
abbrev cX6_loseJumps : ByteArray := prog_8_method_12_code
def yX6_loseJumps : MethodName := ⟨RX6, "loseJumps", "(II)V"⟩
def RX7 : String := "StatementRules2$Statements"
def TX7 : u_T := fun k => match k with
  | 0 => ("StatementRules2$Formulas", "tokens", "LStatementRules2$Tokens;", true)
  | 1 => ("StatementRules2$Formulas", "code", "LStatementRules2$Code;", true)
  | 2 => ("StatementRules2$Formulas", "told", "LStatementRules2$Told;", true)
  | 3 => ("StatementRules2$Formulas", "names", "LStatementRules2$Names;", true)
  | 4 => ("StatementRules2$Formulas", "faultNumber", "I", false)
  | 5 => ("StatementRules2$Formulas", "faultPlace", "I", false)
  | 6 => ("StatementRules2$Formulas", "openSigns", "I", false)
  | 7 => ("StatementRules2$Statements", "opens", "LStatementRules2$Opens;", true)
  | 8 => ("StatementRules2$Statements", "alive", "Z", false)
  | 9 => ("StatementRules2$Statements", "unreached", "I", false)
  | _ => ("StatementRules2$Statements", "depth", "I", false)
def tyX7 : Nat → FieldType := fun k => match k with
  | 0 => .object "StatementRules2$Tokens"
  | 1 => .object "StatementRules2$Code"
  | 2 => .object "StatementRules2$Told"
  | 3 => .object "StatementRules2$Names"
  | 4 => .int
  | 5 => .int
  | 6 => .int
  | 7 => .object "StatementRules2$Opens"
  | 8 => .boolean
  | 9 => .int
  | _ => .int
abbrev wsX70 : List Cond := u_ws RX7 TX7 11
theorem nmX7 : ∀ a, a < 11 → ∀ b, b < 11 → a ≠ b → (TX7 a).2.1 ≠ (TX7 b).2.1 := by decide +kernel
theorem tyX7_ok : ∀ k, k < 11 → parseFieldDescriptor (TX7 k).2.2.1 = some (tyX7 k) := by decide +kernel
abbrev cX7_init : ByteArray := prog_9_method_1_code
def yX7_init : MethodName := ⟨RX7, "<init>", "(LStatementRules2$Tokens;LStatementRules2$Code;LStatementRules2$Told;)V"⟩
abbrev cX7_translate : ByteArray := prog_9_method_2_code
def yX7_translate : MethodName := ⟨RX7, "translate", "(I)I"⟩
abbrev cX7_turns : ByteArray := prog_9_method_3_code
def yX7_turns : MethodName := ⟨RX7, "turns", "(I)V"⟩
abbrev cX7_bodyTurn : ByteArray := prog_9_method_4_code
def yX7_bodyTurn : MethodName := ⟨RX7, "bodyTurn", "(LStatementRules2$Open;)V"⟩
abbrev cX7_groupTurn : ByteArray := prog_9_method_5_code
def yX7_groupTurn : MethodName := ⟨RX7, "groupTurn", "(LStatementRules2$Open;)V"⟩
abbrev cX7_statement : ByteArray := prog_9_method_6_code
def yX7_statement : MethodName := ⟨RX7, "statement", "(Z)V"⟩
abbrev cX7_notReached : ByteArray := prog_9_method_7_code
def yX7_notReached : MethodName := ⟨RX7, "notReached", "(I)V"⟩
abbrev cX7_named : ByteArray := prog_9_method_8_code
def yX7_named : MethodName := ⟨RX7, "named", "()V"⟩
abbrev cX7_change : ByteArray := prog_9_method_9_code
def yX7_change : MethodName := ⟨RX7, "change", "(JIZ)V"⟩
abbrev cX7_plain : ByteArray := prog_9_method_10_code
def yX7_plain : MethodName := ⟨RX7, "plain", "()V"⟩
abbrev cX7_compound : ByteArray := prog_9_method_11_code
def yX7_compound : MethodName := ⟨RX7, "compound", "()V"⟩
abbrev cX7_newName : ByteArray := prog_9_method_12_code
def yX7_newName : MethodName := ⟨RX7, "newName", "()J"⟩
abbrev cX7_define : ByteArray := prog_9_method_13_code
def yX7_define : MethodName := ⟨RX7, "define", "(J)V"⟩
abbrev cX7_tell : ByteArray := prog_9_method_14_code
def yX7_tell : MethodName := ⟨RX7, "tell", "(J)I"⟩
abbrev cX7_jump : ByteArray := prog_9_method_15_code
def yX7_jump : MethodName := ⟨RX7, "jump", "()V"⟩
abbrev cX7_labelTarget : ByteArray := prog_9_method_16_code
def yX7_labelTarget : MethodName := ⟨RX7, "labelTarget", "(Z)I"⟩
abbrev cX7_leave : ByteArray := prog_9_method_17_code
def yX7_leave : MethodName := ⟨RX7, "leave", "(II)V"⟩
abbrev cX7_giveBack : ByteArray := prog_9_method_18_code
def yX7_giveBack : MethodName := ⟨RX7, "giveBack", "()V"⟩
abbrev cX7_yieldValue : ByteArray := prog_9_method_19_code
def yX7_yieldValue : MethodName := ⟨RX7, "yieldValue", "()V"⟩
abbrev cX7_throwOne : ByteArray := prog_9_method_20_code
def yX7_throwOne : MethodName := ⟨RX7, "throwOne", "()V"⟩
abbrev cX7_claim : ByteArray := prog_9_method_21_code
def yX7_claim : MethodName := ⟨RX7, "claim", "()V"⟩
abbrev cX7_beginIf : ByteArray := prog_9_method_22_code
def yX7_beginIf : MethodName := ⟨RX7, "beginIf", "()V"⟩
abbrev cX7_conditionInside : ByteArray := prog_9_method_23_code
def yX7_conditionInside : MethodName := ⟨RX7, "conditionInside", "()Z"⟩
abbrev cX7_beginWhile : ByteArray := prog_9_method_24_code
def yX7_beginWhile : MethodName := ⟨RX7, "beginWhile", "()V"⟩
abbrev cX7_pushLoop : ByteArray := prog_9_method_25_code
def yX7_pushLoop : MethodName := ⟨RX7, "pushLoop", "(III)LStatementRules2$Open;"⟩
abbrev cX7_beginDo : ByteArray := prog_9_method_26_code
def yX7_beginDo : MethodName := ⟨RX7, "beginDo", "()V"⟩
abbrev cX7_beginFor : ByteArray := prog_9_method_27_code
def yX7_beginFor : MethodName := ⟨RX7, "beginFor", "()V"⟩
abbrev cX7_changeHere : ByteArray := prog_9_method_28_code
def yX7_changeHere : MethodName := ⟨RX7, "changeHere", "(Z)V"⟩
abbrev cX7_forHead : ByteArray := prog_9_method_29_code
def yX7_forHead : MethodName := ⟨RX7, "forHead", "()LStatementRules2$Open;"⟩
abbrev cX7_rowHead : ByteArray := prog_9_method_30_code
def yX7_rowHead : MethodName := ⟨RX7, "rowHead", "(J)LStatementRules2$Open;"⟩
abbrev cX7_rowValues : ByteArray := prog_9_method_31_code
def yX7_rowValues : MethodName := ⟨RX7, "rowValues", "()I"⟩
abbrev cX7_throwNull : ByteArray := prog_9_method_32_code
def yX7_throwNull : MethodName := ⟨RX7, "throwNull", "()V"⟩
abbrev cX7_beginLock : ByteArray := prog_9_method_33_code
def yX7_beginLock : MethodName := ⟨RX7, "beginLock", "()V"⟩
abbrev cX7_beginSwitch : ByteArray := prog_9_method_34_code
def yX7_beginSwitch : MethodName := ⟨RX7, "beginSwitch", "()V"⟩
abbrev cX7_beginTry : ByteArray := prog_9_method_35_code
def yX7_beginTry : MethodName := ⟨RX7, "beginTry", "()V"⟩
abbrev cX7_openResource : ByteArray := prog_9_method_36_code
def yX7_openResource : MethodName := ⟨RX7, "openResource", "()V"⟩
abbrev cX7_endBody : ByteArray := prog_9_method_37_code
def yX7_endBody : MethodName := ⟨RX7, "endBody", "(LStatementRules2$Open;)V"⟩
abbrev cX7_endIf : ByteArray := prog_9_method_38_code
def yX7_endIf : MethodName := ⟨RX7, "endIf", "(LStatementRules2$Open;)V"⟩
abbrev cX7_endDo : ByteArray := prog_9_method_39_code
def yX7_endDo : MethodName := ⟨RX7, "endDo", "(LStatementRules2$Open;)V"⟩
abbrev cX7_endList : ByteArray := prog_9_method_40_code
def yX7_endList : MethodName := ⟨RX7, "endList", "(LStatementRules2$Open;)V"⟩
abbrev cX7_endLock : ByteArray := prog_9_method_41_code
def yX7_endLock : MethodName := ⟨RX7, "endLock", "(LStatementRules2$Open;)V"⟩
abbrev cX7_endSwitch : ByteArray := prog_9_method_42_code
def yX7_endSwitch : MethodName := ⟨RX7, "endSwitch", "(LStatementRules2$Open;)V"⟩
abbrev cX7_endGuarded : ByteArray := prog_9_method_43_code
def yX7_endGuarded : MethodName := ⟨RX7, "endGuarded", "(LStatementRules2$Open;)V"⟩
abbrev cX7_beginCatch : ByteArray := prog_9_method_44_code
def yX7_beginCatch : MethodName := ⟨RX7, "beginCatch", "(LStatementRules2$Open;)V"⟩
abbrev cX7_caughtKind : ByteArray := prog_9_method_45_code
def yX7_caughtKind : MethodName := ⟨RX7, "caughtKind", "(LStatementRules2$Open;I)V"⟩
abbrev cX7_beginFinally : ByteArray := prog_9_method_46_code
def yX7_beginFinally : MethodName := ⟨RX7, "beginFinally", "(LStatementRules2$Open;)V"⟩
abbrev cX7_endFinally : ByteArray := prog_9_method_47_code
def yX7_endFinally : MethodName := ⟨RX7, "endFinally", "(LStatementRules2$Open;)V"⟩
abbrev cX7_armBlock : ByteArray := prog_9_method_48_code
def yX7_armBlock : MethodName := ⟨RX7, "armBlock", "(I)V"⟩
def RX8 : String := "StatementRules2$Thrown"
def TX8 : u_T := fun k => match k with
  | 0 => ("StatementRules2$Thrown", "kinds", "[I", true)
  | 1 => ("StatementRules2$Thrown", "numbers", "[I", true)
  | 2 => ("StatementRules2$Thrown", "sort", "I", false)
  | 3 => ("StatementRules2$Thrown", "number", "I", false)
  | _ => ("StatementRules2$Thrown", "count", "I", false)
def tyX8 : Nat → FieldType := fun k => match k with
  | 0 => .array .int
  | 1 => .array .int
  | 2 => .int
  | 3 => .int
  | _ => .int
abbrev wsX80 : List Cond := u_ws RX8 TX8 5
theorem nmX8 : ∀ a, a < 5 → ∀ b, b < 5 → a ≠ b → (TX8 a).2.1 ≠ (TX8 b).2.1 := by decide +kernel
theorem tyX8_ok : ∀ k, k < 5 → parseFieldDescriptor (TX8 k).2.2.1 = some (tyX8 k) := by decide +kernel
abbrev cX8_init : ByteArray := prog_10_method_1_code
def yX8_init : MethodName := ⟨RX8, "<init>", "()V"⟩
abbrev cX8_suppress : ByteArray := prog_10_method_2_code
def yX8_suppress : MethodName := ⟨RX8, "suppress", "(II)V"⟩
def RX9 : String := "StatementRules2$Tokens"
def TX9 : u_T := fun k => match k with
  | 0 => ("StatementRules2$Tokens", "tape", "[I", true)
  | 1 => ("StatementRules2$Tokens", "words", "[J", true)
  | 2 => ("StatementRules2$Tokens", "length", "I", false)
  | 3 => ("StatementRules2$Tokens", "next", "I", false)
  | 4 => ("StatementRules2$Tokens", "type", "I", false)
  | 5 => ("StatementRules2$Tokens", "place", "I", false)
  | 6 => ("StatementRules2$Tokens", "value", "I", false)
  | _ => ("StatementRules2$Tokens", "name", "J", false)
def tyX9 : Nat → FieldType := fun k => match k with
  | 0 => .array .int
  | 1 => .array .long
  | 2 => .int
  | 3 => .int
  | 4 => .int
  | 5 => .int
  | 6 => .int
  | _ => .long
abbrev wsX90 : List Cond := u_ws RX9 TX9 8
theorem nmX9 : ∀ a, a < 8 → ∀ b, b < 8 → a ≠ b → (TX9 a).2.1 ≠ (TX9 b).2.1 := by decide +kernel
theorem tyX9_ok : ∀ k, k < 8 → parseFieldDescriptor (TX9 k).2.2.1 = some (tyX9 k) := by decide +kernel
abbrev cX9_init : ByteArray := prog_11_method_1_code
def yX9_init : MethodName := ⟨RX9, "<init>", "([I)V"⟩
abbrev cX9_start : ByteArray := prog_11_method_2_code
def yX9_start : MethodName := ⟨RX9, "start", "(I)V"⟩
abbrev cX9_stop : ByteArray := prog_11_method_3_code
def yX9_stop : MethodName := ⟨RX9, "stop", "()V"⟩
abbrev cX9_advance : ByteArray := prog_11_method_4_code
def yX9_advance : MethodName := ⟨RX9, "advance", "()V"⟩
abbrev cX9_byteAt : ByteArray := prog_11_method_5_code
def yX9_byteAt : MethodName := ⟨RX9, "byteAt", "(I)I"⟩
abbrev cX9_isDigit : ByteArray := prog_11_method_6_code
def yX9_isDigit : MethodName := ⟨RX9, "isDigit", "(I)Z"⟩
abbrev cX9_isLetter : ByteArray := prog_11_method_7_code
def yX9_isLetter : MethodName := ⟨RX9, "isLetter", "(I)Z"⟩
abbrev cX9_takeNumber : ByteArray := prog_11_method_8_code
def yX9_takeNumber : MethodName := ⟨RX9, "takeNumber", "()V"⟩
abbrev cX9_takeRow : ByteArray := prog_11_method_9_code
def yX9_takeRow : MethodName := ⟨RX9, "takeRow", "()V"⟩
abbrev cX9_rowType : ByteArray := prog_11_method_10_code
def yX9_rowType : MethodName := ⟨RX9, "rowType", "(I)I"⟩
abbrev cX9_takeSign : ByteArray := prog_11_method_11_code
def yX9_takeSign : MethodName := ⟨RX9, "takeSign", "()V"⟩
abbrev cX9_longSign : ByteArray := prog_11_method_12_code
def yX9_longSign : MethodName := ⟨RX9, "longSign", "(II)I"⟩
abbrev cX9_isSign : ByteArray := prog_11_method_13_code
def yX9_isSign : MethodName := ⟨RX9, "isSign", "(I)Z"⟩
def RX10 : String := "StatementRules2$Told"
def TX10 : u_T := fun k => match k with
  | 0 => ("StatementRules2$Told", "above", "[I", true)
  | 1 => ("StatementRules2$Told", "isNull", "[I", true)
  | 2 => ("StatementRules2$Told", "opening", "[I", true)
  | 3 => ("StatementRules2$Told", "closing", "[I", true)
  | 4 => ("StatementRules2$Told", "kindCount", "I", false)
  | _ => ("StatementRules2$Told", "assertsOn", "Z", false)
def tyX10 : Nat → FieldType := fun k => match k with
  | 0 => .array .int
  | 1 => .array .int
  | 2 => .array .int
  | 3 => .array .int
  | 4 => .int
  | _ => .boolean
abbrev wsX100 : List Cond := u_ws RX10 TX10 6
theorem nmX10 : ∀ a, a < 6 → ∀ b, b < 6 → a ≠ b → (TX10 a).2.1 ≠ (TX10 b).2.1 := by decide +kernel
theorem tyX10_ok : ∀ k, k < 6 → parseFieldDescriptor (TX10 k).2.2.1 = some (tyX10 k) := by decide +kernel
abbrev cX10_init : ByteArray := prog_12_method_1_code
def yX10_init : MethodName := ⟨RX10, "<init>", "()V"⟩
abbrev cX10_isKind : ByteArray := prog_12_method_2_code
def yX10_isKind : MethodName := ⟨RX10, "isKind", "(I)Z"⟩
abbrev cX10_isFull : ByteArray := prog_12_method_3_code
def yX10_isFull : MethodName := ⟨RX10, "isFull", "()Z"⟩
abbrev cX10_addKind : ByteArray := prog_12_method_4_code
def yX10_addKind : MethodName := ⟨RX10, "addKind", "(I)I"⟩
abbrev cX10_isUnder : ByteArray := prog_12_method_5_code
def yX10_isUnder : MethodName := ⟨RX10, "isUnder", "(II)Z"⟩
abbrev cX10_tellResource : ByteArray := prog_12_method_6_code
def yX10_tellResource : MethodName := ⟨RX10, "tellResource", "(IIII)V"⟩
def RX11 : String := "StatementRules2"
def TX11 : u_T := fun k => match k with
  | 0 => ("StatementRules2", "tape", "[I", true)
  | 1 => ("StatementRules2", "told", "LStatementRules2$Told;", true)
  | 2 => ("StatementRules2", "code", "LStatementRules2$Code;", true)
  | 3 => ("StatementRules2", "reader", "LStatementRules2$Statements;", true)
  | 4 => ("StatementRules2", "machine", "LStatementRules2$Machine;", true)
  | 5 => ("StatementRules2", "length", "I", false)
  | 6 => ("StatementRules2", "latestFault", "I", false)
  | 7 => ("StatementRules2", "hasProgram", "Z", false)
  | _ => ("StatementRules2", "hasRun", "Z", false)
def tyX11 : Nat → FieldType := fun k => match k with
  | 0 => .array .int
  | 1 => .object "StatementRules2$Told"
  | 2 => .object "StatementRules2$Code"
  | 3 => .object "StatementRules2$Statements"
  | 4 => .object "StatementRules2$Machine"
  | 5 => .int
  | 6 => .int
  | 7 => .boolean
  | _ => .boolean
abbrev wsX110 : List Cond := u_ws RX11 TX11 9
theorem nmX11 : ∀ a, a < 9 → ∀ b, b < 9 → a ≠ b → (TX11 a).2.1 ≠ (TX11 b).2.1 := by decide +kernel
theorem tyX11_ok : ∀ k, k < 9 → parseFieldDescriptor (TX11 k).2.2.1 = some (tyX11 k) := by decide +kernel
abbrev cX11_init : ByteArray := prog_1_method_1_code
def yX11_init : MethodName := ⟨RX11, "<init>", "()V"⟩
abbrev cX11_feed : ByteArray := prog_1_method_2_code
def yX11_feed : MethodName := ⟨RX11, "feed", "(IIIII)I"⟩
abbrev cX11_addBytes : ByteArray := prog_1_method_3_code
def yX11_addBytes : MethodName := ⟨RX11, "addBytes", "(I)V"⟩
abbrev cX11_cut : ByteArray := prog_1_method_4_code
def yX11_cut : MethodName := ⟨RX11, "cut", "(I)I"⟩
abbrev cX11_kind : ByteArray := prog_1_method_5_code
def yX11_kind : MethodName := ⟨RX11, "kind", "(I)I"⟩
abbrev cX11_resource : ByteArray := prog_1_method_6_code
def yX11_resource : MethodName := ⟨RX11, "resource", "(IIII)I"⟩
abbrev cX11_isKindOrNothing : ByteArray := prog_1_method_7_code
def yX11_isKindOrNothing : MethodName := ⟨RX11, "isKindOrNothing", "(I)Z"⟩
abbrev cX11_asserts : ByteArray := prog_1_method_8_code
def yX11_asserts : MethodName := ⟨RX11, "asserts", "(Z)I"⟩
abbrev cX11_read : ByteArray := prog_1_method_9_code
def yX11_read : MethodName := ⟨RX11, "read", "()I"⟩
abbrev cX11_fault : ByteArray := prog_1_method_10_code
def yX11_fault : MethodName := ⟨RX11, "fault", "()I"⟩
abbrev cX11_program : ByteArray := prog_1_method_11_code
def yX11_program : MethodName := ⟨RX11, "program", "(I)I"⟩
abbrev cX11_run : ByteArray := prog_1_method_12_code
def yX11_run : MethodName := ⟨RX11, "run", "(II)I"⟩
abbrev cX11_ran : ByteArray := prog_1_method_13_code
def yX11_ran : MethodName := ⟨RX11, "ran", "(I)I"⟩
abbrev cX11_trace : ByteArray := prog_1_method_14_code
def yX11_trace : MethodName := ⟨RX11, "trace", "(II)I"⟩
abbrev cX11_suppressed : ByteArray := prog_1_method_15_code
def yX11_suppressed : MethodName := ⟨RX11, "suppressed", "(II)I"⟩
abbrev cX11_under : ByteArray := prog_1_method_16_code
def yX11_under : MethodName := ⟨RX11, "under", "(II)I"⟩
abbrev cX11_rounds : ByteArray := prog_1_method_17_code
def yX11_rounds : MethodName := ⟨RX11, "rounds", "(II)I"⟩
abbrev cX11_at : ByteArray := prog_1_method_18_code
def yX11_at : MethodName := ⟨RX11, "at", "([II)I"⟩
abbrev cX11_put : ByteArray := prog_1_method_19_code
def yX11_put : MethodName := ⟨RX11, "put", "([III)V"⟩
def RX12 : String := "StatementRules2Model"
def TX12 : u_T := fun k => match k with
  | 0 => ("StatementRules2Model", "thrown", "I", false)
  | 1 => ("StatementRules2Model", "tape", "[I", true)
  | 2 => ("StatementRules2Model", "taped", "I", false)
  | 3 => ("StatementRules2Model", "kinds", "I", false)
  | 4 => ("StatementRules2Model", "above", "[I", true)
  | 5 => ("StatementRules2Model", "isNull", "[Z", true)
  | 6 => ("StatementRules2Model", "opening", "[I", true)
  | 7 => ("StatementRules2Model", "closing", "[I", true)
  | 8 => ("StatementRules2Model", "asserting", "Z", false)
  | 9 => ("StatementRules2Model", "words", "[J", true)
  | 10 => ("StatementRules2Model", "tok", "I", false)
  | 11 => ("StatementRules2Model", "from", "I", false)
  | 12 => ("StatementRules2Model", "to", "I", false)
  | 13 => ("StatementRules2Model", "name", "J", false)
  | 14 => ("StatementRules2Model", "number", "I", false)
  | 15 => ("StatementRules2Model", "fault", "I", false)
  | 16 => ("StatementRules2Model", "faultAt", "I", false)
  | 17 => ("StatementRules2Model", "tokens", "I", false)
  | 18 => ("StatementRules2Model", "late", "I", false)
  | 19 => ("StatementRules2Model", "opened", "I", false)
  | 20 => ("StatementRules2Model", "codes", "I", false)
  | 21 => ("StatementRules2Model", "op", "[I", true)
  | 22 => ("StatementRules2Model", "ix", "[I", true)
  | 23 => ("StatementRules2Model", "iy", "[I", true)
  | 24 => ("StatementRules2Model", "entries", "I", false)
  | 25 => ("StatementRules2Model", "entryValue", "[I", true)
  | 26 => ("StatementRules2Model", "entryAt", "[I", true)
  | 27 => ("StatementRules2Model", "entryNext", "[I", true)
  | 28 => ("StatementRules2Model", "entryElse", "[Z", true)
  | 29 => ("StatementRules2Model", "tries", "I", false)
  | 30 => ("StatementRules2Model", "tryCatch", "[I", true)
  | 31 => ("StatementRules2Model", "tryFinal", "[I", true)
  | 32 => ("StatementRules2Model", "tryEnd", "[I", true)
  | 33 => ("StatementRules2Model", "catches", "I", false)
  | 34 => ("StatementRules2Model", "catchKind", "[I", true)
  | 35 => ("StatementRules2Model", "catchAt", "[I", true)
  | 36 => ("StatementRules2Model", "catchSlot", "[I", true)
  | 37 => ("StatementRules2Model", "catchNext", "[I", true)
  | 38 => ("StatementRules2Model", "seen", "I", false)
  | 39 => ("StatementRules2Model", "seenName", "[J", true)
  | 40 => ("StatementRules2Model", "seenSlot", "[I", true)
  | 41 => ("StatementRules2Model", "seenCaught", "[Z", true)
  | 42 => ("StatementRules2Model", "slots", "I", false)
  | 43 => ("StatementRules2Model", "goals", "I", false)
  | 44 => ("StatementRules2Model", "goalSort", "[I", true)
  | 45 => ("StatementRules2Model", "goalName", "[J", true)
  | 46 => ("StatementRules2Model", "goalLoop", "[I", true)
  | 47 => ("StatementRules2Model", "goalDepth", "[I", true)
  | 48 => ("StatementRules2Model", "breaks", "[I", true)
  | 49 => ("StatementRules2Model", "continues", "[I", true)
  | 50 => ("StatementRules2Model", "broken", "[Z", true)
  | 51 => ("StatementRules2Model", "continued", "[Z", true)
  | 52 => ("StatementRules2Model", "depth", "I", false)
  | 53 => ("StatementRules2Model", "statements", "I", false)
  | 54 => ("StatementRules2Model", "tellings", "I", false)
  | 55 => ("StatementRules2Model", "jumps", "I", false)
  | 56 => ("StatementRules2Model", "walls", "I", false)
  | 57 => ("StatementRules2Model", "wallTry", "[I", true)
  | 58 => ("StatementRules2Model", "wallGoals", "[I", true)
  | 59 => ("StatementRules2Model", "pends", "I", false)
  | 60 => ("StatementRules2Model", "pendGoal", "[I", true)
  | 61 => ("StatementRules2Model", "pendBreak", "[Z", true)
  | 62 => ("StatementRules2Model", "pendTry", "[I", true)
  | 63 => ("StatementRules2Model", "top", "I", false)
  | 64 => ("StatementRules2Model", "fk", "[I", true)
  | 65 => ("StatementRules2Model", "fs", "[I", true)
  | 66 => ("StatementRules2Model", "fp", "[I", true)
  | 67 => ("StatementRules2Model", "fq", "[I", true)
  | 68 => ("StatementRules2Model", "fr", "[I", true)
  | 69 => ("StatementRules2Model", "fv", "[I", true)
  | 70 => ("StatementRules2Model", "fw", "[I", true)
  | 71 => ("StatementRules2Model", "fx", "[I", true)
  | 72 => ("StatementRules2Model", "fy", "[I", true)
  | 73 => ("StatementRules2Model", "fz", "[I", true)
  | 74 => ("StatementRules2Model", "fn", "[J", true)
  | 75 => ("StatementRules2Model", "res", "Z", false)
  | 76 => ("StatementRules2Model", "lastFault", "I", false)
  | 77 => ("StatementRules2Model", "hasProgram", "Z", false)
  | 78 => ("StatementRules2Model", "endsWell", "Z", false)
  | 79 => ("StatementRules2Model", "hasRun", "Z", false)
  | 80 => ("StatementRules2Model", "steps", "I", false)
  | 81 => ("StatementRules2Model", "rowMany", "I", false)
  | 82 => ("StatementRules2Model", "rowSort", "[I", true)
  | 83 => ("StatementRules2Model", "rowNumber", "[I", true)
  | 84 => ("StatementRules2Model", "vals", "[I", true)
  | 85 => ("StatementRules2Model", "things", "I", false)
  | 86 => ("StatementRules2Model", "thingKind", "[I", true)
  | 87 => ("StatementRules2Model", "thingNumber", "[I", true)
  | 88 => ("StatementRules2Model", "suppressedMany", "[I", true)
  | 89 => ("StatementRules2Model", "suppressedKind", "[I", true)
  | 90 => ("StatementRules2Model", "suppressedNumber", "[I", true)
  | 91 => ("StatementRules2Model", "held", "[I", true)
  | 92 => ("StatementRules2Model", "pc", "I", false)
  | 93 => ("StatementRules2Model", "high", "I", false)
  | 94 => ("StatementRules2Model", "vs", "[I", true)
  | 95 => ("StatementRules2Model", "openMany", "I", false)
  | 96 => ("StatementRules2Model", "openOf", "[I", true)
  | 97 => ("StatementRules2Model", "waiting", "I", false)
  | 98 => ("StatementRules2Model", "waits", "[I", true)
  | 99 => ("StatementRules2Model", "recs", "I", false)
  | 100 => ("StatementRules2Model", "rk", "[I", true)
  | 101 => ("StatementRules2Model", "ra", "[I", true)
  | 102 => ("StatementRules2Model", "rb", "[I", true)
  | 103 => ("StatementRules2Model", "rc", "[I", true)
  | 104 => ("StatementRules2Model", "rHigh", "[I", true)
  | 105 => ("StatementRules2Model", "rHow", "[I", true)
  | 106 => ("StatementRules2Model", "rTo", "[I", true)
  | 107 => ("StatementRules2Model", "rDepth", "[I", true)
  | 108 => ("StatementRules2Model", "rValue", "[I", true)
  | 109 => ("StatementRules2Model", "rThing", "[I", true)
  | 110 => ("StatementRules2Model", "how", "I", false)
  | 111 => ("StatementRules2Model", "goTo", "I", false)
  | 112 => ("StatementRules2Model", "goDepth", "I", false)
  | 113 => ("StatementRules2Model", "value", "I", false)
  | 114 => ("StatementRules2Model", "thing", "I", false)
  | _ => ("StatementRules2Model", "ended", "I", false)
def tyX12 : Nat → FieldType := fun k => match k with
  | 0 => .int
  | 1 => .array .int
  | 2 => .int
  | 3 => .int
  | 4 => .array .int
  | 5 => .array .boolean
  | 6 => .array .int
  | 7 => .array .int
  | 8 => .boolean
  | 9 => .array .long
  | 10 => .int
  | 11 => .int
  | 12 => .int
  | 13 => .long
  | 14 => .int
  | 15 => .int
  | 16 => .int
  | 17 => .int
  | 18 => .int
  | 19 => .int
  | 20 => .int
  | 21 => .array .int
  | 22 => .array .int
  | 23 => .array .int
  | 24 => .int
  | 25 => .array .int
  | 26 => .array .int
  | 27 => .array .int
  | 28 => .array .boolean
  | 29 => .int
  | 30 => .array .int
  | 31 => .array .int
  | 32 => .array .int
  | 33 => .int
  | 34 => .array .int
  | 35 => .array .int
  | 36 => .array .int
  | 37 => .array .int
  | 38 => .int
  | 39 => .array .long
  | 40 => .array .int
  | 41 => .array .boolean
  | 42 => .int
  | 43 => .int
  | 44 => .array .int
  | 45 => .array .long
  | 46 => .array .int
  | 47 => .array .int
  | 48 => .array .int
  | 49 => .array .int
  | 50 => .array .boolean
  | 51 => .array .boolean
  | 52 => .int
  | 53 => .int
  | 54 => .int
  | 55 => .int
  | 56 => .int
  | 57 => .array .int
  | 58 => .array .int
  | 59 => .int
  | 60 => .array .int
  | 61 => .array .boolean
  | 62 => .array .int
  | 63 => .int
  | 64 => .array .int
  | 65 => .array .int
  | 66 => .array .int
  | 67 => .array .int
  | 68 => .array .int
  | 69 => .array .int
  | 70 => .array .int
  | 71 => .array .int
  | 72 => .array .int
  | 73 => .array .int
  | 74 => .array .long
  | 75 => .boolean
  | 76 => .int
  | 77 => .boolean
  | 78 => .boolean
  | 79 => .boolean
  | 80 => .int
  | 81 => .int
  | 82 => .array .int
  | 83 => .array .int
  | 84 => .array .int
  | 85 => .int
  | 86 => .array .int
  | 87 => .array .int
  | 88 => .array .int
  | 89 => .array .int
  | 90 => .array .int
  | 91 => .array .int
  | 92 => .int
  | 93 => .int
  | 94 => .array .int
  | 95 => .int
  | 96 => .array .int
  | 97 => .int
  | 98 => .array .int
  | 99 => .int
  | 100 => .array .int
  | 101 => .array .int
  | 102 => .array .int
  | 103 => .array .int
  | 104 => .array .int
  | 105 => .array .int
  | 106 => .array .int
  | 107 => .array .int
  | 108 => .array .int
  | 109 => .array .int
  | 110 => .int
  | 111 => .int
  | 112 => .int
  | 113 => .int
  | 114 => .int
  | _ => .int
abbrev wsX120 : List Cond := u_ws RX12 TX12 116
theorem nmX12 : ∀ a, a < 116 → ∀ b, b < 116 → a ≠ b → (TX12 a).2.1 ≠ (TX12 b).2.1 := by decide +kernel
theorem tyX12_ok : ∀ k, k < 116 → parseFieldDescriptor (TX12 k).2.2.1 = some (tyX12 k) := by decide +kernel
abbrev cX12_init : ByteArray := prog_14_method_1_code
def yX12_init : MethodName := ⟨RX12, "<init>", "()V"⟩
abbrev cX12_in : ByteArray := prog_14_method_3_code
def yX12_in : MethodName := ⟨RX12, "in", "(III)Z"⟩
abbrev cX12_feed : ByteArray := prog_14_method_4_code
def yX12_feed : MethodName := ⟨RX12, "feed", "(IIIII)I"⟩
abbrev cX12_cut : ByteArray := prog_14_method_5_code
def yX12_cut : MethodName := ⟨RX12, "cut", "(I)I"⟩
abbrev cX12_kind : ByteArray := prog_14_method_6_code
def yX12_kind : MethodName := ⟨RX12, "kind", "(I)I"⟩
abbrev cX12_isUnder : ByteArray := prog_14_method_7_code
def yX12_isUnder : MethodName := ⟨RX12, "isUnder", "(II)Z"⟩
abbrev cX12_under : ByteArray := prog_14_method_8_code
def yX12_under : MethodName := ⟨RX12, "under", "(II)I"⟩
abbrev cX12_resource : ByteArray := prog_14_method_9_code
def yX12_resource : MethodName := ⟨RX12, "resource", "(IIII)I"⟩
abbrev cX12_asserts : ByteArray := prog_14_method_10_code
def yX12_asserts : MethodName := ⟨RX12, "asserts", "(Z)I"⟩
abbrev cX12_at : ByteArray := prog_14_method_11_code
def yX12_at : MethodName := ⟨RX12, "at", "(I)I"⟩
abbrev cX12_isLetter : ByteArray := prog_14_method_12_code
def yX12_isLetter : MethodName := ⟨RX12, "isLetter", "(I)Z"⟩
abbrev cX12_isDigit : ByteArray := prog_14_method_13_code
def yX12_isDigit : MethodName := ⟨RX12, "isDigit", "(I)Z"⟩
abbrev cX12_next : ByteArray := prog_14_method_14_code
def yX12_next : MethodName := ⟨RX12, "next", "()V"⟩
abbrev cX12_readName : ByteArray := prog_14_method_15_code
def yX12_readName : MethodName := ⟨RX12, "readName", "()V"⟩
abbrev cX12_readSign : ByteArray := prog_14_method_16_code
def yX12_readSign : MethodName := ⟨RX12, "readSign", "(I)V"⟩
abbrev cX12_fail : ByteArray := prog_14_method_17_code
def yX12_fail : MethodName := ⟨RX12, "fail", "(II)V"⟩
abbrev cX12_note : ByteArray := prog_14_method_18_code
def yX12_note : MethodName := ⟨RX12, "note", "(I)V"⟩
abbrev cX12_can : ByteArray := prog_14_method_19_code
def yX12_can : MethodName := ⟨RX12, "can", "(Z)Z"⟩
abbrev cX12_need : ByteArray := prog_14_method_20_code
def yX12_need : MethodName := ⟨RX12, "need", "(I)Z"⟩
abbrev cX12_opens : ByteArray := prog_14_method_21_code
def yX12_opens : MethodName := ⟨RX12, "opens", "()Z"⟩
abbrev cX12_open : ByteArray := prog_14_method_22_code
def yX12_open : MethodName := ⟨RX12, "open", "(I)Z"⟩
abbrev cX12_shut : ByteArray := prog_14_method_23_code
def yX12_shut : MethodName := ⟨RX12, "shut", "(I)Z"⟩
abbrev cX12_emit : ByteArray := prog_14_method_24_code
def yX12_emit : MethodName := ⟨RX12, "emit", "(II)I"⟩
abbrev cX12_seenAs : ByteArray := prog_14_method_25_code
def yX12_seenAs : MethodName := ⟨RX12, "seenAs", "(J)I"⟩
abbrev cX12_see : ByteArray := prog_14_method_26_code
def yX12_see : MethodName := ⟨RX12, "see", "(JZ)I"⟩
abbrev cX12_goal : ByteArray := prog_14_method_27_code
def yX12_goal : MethodName := ⟨RX12, "goal", "(IJ)I"⟩
abbrev cX12_loopGoal : ByteArray := prog_14_method_28_code
def yX12_loopGoal : MethodName := ⟨RX12, "loopGoal", "()I"⟩
abbrev cX12_patch : ByteArray := prog_14_method_29_code
def yX12_patch : MethodName := ⟨RX12, "patch", "(II)V"⟩
abbrev cX12_goes : ByteArray := prog_14_method_30_code
def yX12_goes : MethodName := ⟨RX12, "goes", "(IZ)V"⟩
abbrev cX12_pend : ByteArray := prog_14_method_31_code
def yX12_pend : MethodName := ⟨RX12, "pend", "(IZ)V"⟩
abbrev cX12_resolve : ByteArray := prog_14_method_32_code
def yX12_resolve : MethodName := ⟨RX12, "resolve", "(IZ)V"⟩
abbrev cX12_push : ByteArray := prog_14_method_33_code
def yX12_push : MethodName := ⟨RX12, "push", "(I)V"⟩
abbrev cX12_then : ByteArray := prog_14_method_34_code
def yX12_then : MethodName := ⟨RX12, "then", "(II)V"⟩
abbrev cX12_body : ByteArray := prog_14_method_35_code
def yX12_body : MethodName := ⟨RX12, "body", "(I)V"⟩
abbrev cX12_over : ByteArray := prog_14_method_36_code
def yX12_over : MethodName := ⟨RX12, "over", "(Z)V"⟩
abbrev cX12_parse : ByteArray := prog_14_method_37_code
def yX12_parse : MethodName := ⟨RX12, "parse", "()V"⟩
abbrev cX12_thing : ByteArray := prog_14_method_38_code
def yX12_thing : MethodName := ⟨RX12, "thing", "(I)V"⟩
abbrev cX12_sums : ByteArray := prog_14_method_39_code
def yX12_sums : MethodName := ⟨RX12, "sums", "(IIZ)V"⟩
abbrev cX12_both : ByteArray := prog_14_method_40_code
def yX12_both : MethodName := ⟨RX12, "both", "(IIII)V"⟩
abbrev cX12_factor : ByteArray := prog_14_method_41_code
def yX12_factor : MethodName := ⟨RX12, "factor", "(I)V"⟩
abbrev cX12_one : ByteArray := prog_14_method_42_code
def yX12_one : MethodName := ⟨RX12, "one", "(I)V"⟩
abbrev cX12_entry : ByteArray := prog_14_method_43_code
def yX12_entry : MethodName := ⟨RX12, "entry", "(IIZ)V"⟩
abbrev cX12_caseNumber : ByteArray := prog_14_method_44_code
def yX12_caseNumber : MethodName := ⟨RX12, "caseNumber", "(I)Z"⟩
abbrev cX12_arms : ByteArray := prog_14_method_45_code
def yX12_arms : MethodName := ⟨RX12, "arms", "(I)V"⟩
abbrev cX12_list : ByteArray := prog_14_method_46_code
def yX12_list : MethodName := ⟨RX12, "list", "(I)V"⟩
abbrev cX12_block : ByteArray := prog_14_method_47_code
def yX12_block : MethodName := ⟨RX12, "block", "(I)V"⟩
abbrev cX12_stat : ByteArray := prog_14_method_48_code
def yX12_stat : MethodName := ⟨RX12, "stat", "(I)V"⟩
abbrev cX12_telling : ByteArray := prog_14_method_49_code
def yX12_telling : MethodName := ⟨RX12, "telling", "(I)Z"⟩
abbrev cX12_tell : ByteArray := prog_14_method_50_code
def yX12_tell : MethodName := ⟨RX12, "tell", "(I)V"⟩
abbrev cX12_got : ByteArray := prog_14_method_51_code
def yX12_got : MethodName := ⟨RX12, "got", "(JI)I"⟩
abbrev cX12_named : ByteArray := prog_14_method_52_code
def yX12_named : MethodName := ⟨RX12, "named", "(I)V"⟩
abbrev cX12_label : ByteArray := prog_14_method_53_code
def yX12_label : MethodName := ⟨RX12, "label", "(IJI)V"⟩
abbrev cX12_isInArms : ByteArray := prog_14_method_54_code
def yX12_isInArms : MethodName := ⟨RX12, "isInArms", "()Z"⟩
abbrev cX12_ending : ByteArray := prog_14_method_55_code
def yX12_ending : MethodName := ⟨RX12, "ending", "(I)V"⟩
abbrev cX12_jump : ByteArray := prog_14_method_56_code
def yX12_jump : MethodName := ⟨RX12, "jump", "()V"⟩
abbrev cX12_throwing : ByteArray := prog_14_method_57_code
def yX12_throwing : MethodName := ⟨RX12, "throwing", "(I)V"⟩
abbrev cX12_asserted : ByteArray := prog_14_method_58_code
def yX12_asserted : MethodName := ⟨RX12, "asserted", "(I)V"⟩
abbrev cX12_branch : ByteArray := prog_14_method_59_code
def yX12_branch : MethodName := ⟨RX12, "branch", "(I)V"⟩
abbrev cX12_isJustTrue : ByteArray := prog_14_method_60_code
def yX12_isJustTrue : MethodName := ⟨RX12, "isJustTrue", "(I)Z"⟩
abbrev cX12_whiles : ByteArray := prog_14_method_61_code
def yX12_whiles : MethodName := ⟨RX12, "whiles", "(I)V"⟩
abbrev cX12_repeats : ByteArray := prog_14_method_62_code
def yX12_repeats : MethodName := ⟨RX12, "repeats", "(I)V"⟩
abbrev cX12_fors : ByteArray := prog_14_method_63_code
def yX12_fors : MethodName := ⟨RX12, "fors", "(I)V"⟩
abbrev cX12_forHead : ByteArray := prog_14_method_64_code
def yX12_forHead : MethodName := ⟨RX12, "forHead", "(I)V"⟩
abbrev cX12_forBehind : ByteArray := prog_14_method_65_code
def yX12_forBehind : MethodName := ⟨RX12, "forBehind", "(I)V"⟩
abbrev cX12_rows : ByteArray := prog_14_method_66_code
def yX12_rows : MethodName := ⟨RX12, "rows", "(I)V"⟩
abbrev cX12_lock : ByteArray := prog_14_method_67_code
def yX12_lock : MethodName := ⟨RX12, "lock", "(I)V"⟩
abbrev cX12_groups : ByteArray := prog_14_method_68_code
def yX12_groups : MethodName := ⟨RX12, "groups", "(I)V"⟩
abbrev cX12_trying : ByteArray := prog_14_method_69_code
def yX12_trying : MethodName := ⟨RX12, "trying", "(I)V"⟩
abbrev cX12_endTry : ByteArray := prog_14_method_70_code
def yX12_endTry : MethodName := ⟨RX12, "endTry", "(IZ)V"⟩
abbrev cX12_catching : ByteArray := prog_14_method_71_code
def yX12_catching : MethodName := ⟨RX12, "catching", "(I)V"⟩
abbrev cX12_read : ByteArray := prog_14_method_72_code
def yX12_read : MethodName := ⟨RX12, "read", "()I"⟩
abbrev cX12_fault : ByteArray := prog_14_method_73_code
def yX12_fault : MethodName := ⟨RX12, "fault", "()I"⟩
abbrev cX12_program : ByteArray := prog_14_method_74_code
def yX12_program : MethodName := ⟨RX12, "program", "(I)I"⟩
abbrev cX12_row : ByteArray := prog_14_method_75_code
def yX12_row : MethodName := ⟨RX12, "row", "(II)V"⟩
abbrev cX12_record : ByteArray := prog_14_method_76_code
def yX12_record : MethodName := ⟨RX12, "record", "(IIII)I"⟩
abbrev cX12_put : ByteArray := prog_14_method_77_code
def yX12_put : MethodName := ⟨RX12, "put", "(I)V"⟩
abbrev cX12_take : ByteArray := prog_14_method_78_code
def yX12_take : MethodName := ⟨RX12, "take", "()I"⟩
abbrev cX12_raise : ByteArray := prog_14_method_79_code
def yX12_raise : MethodName := ⟨RX12, "raise", "(II)V"⟩
abbrev cX12_closeAll : ByteArray := prog_14_method_80_code
def yX12_closeAll : MethodName := ⟨RX12, "closeAll", "(I)V"⟩
abbrev cX12_finals : ByteArray := prog_14_method_81_code
def yX12_finals : MethodName := ⟨RX12, "finals", "(I)Z"⟩
abbrev cX12_isCaught : ByteArray := prog_14_method_82_code
def yX12_isCaught : MethodName := ⟨RX12, "isCaught", "(I)Z"⟩
abbrev cX12_leave : ByteArray := prog_14_method_83_code
def yX12_leave : MethodName := ⟨RX12, "leave", "()V"⟩
abbrev cX12_step : ByteArray := prog_14_method_84_code
def yX12_step : MethodName := ⟨RX12, "step", "()V"⟩
abbrev cX12_compute : ByteArray := prog_14_method_85_code
def yX12_compute : MethodName := ⟨RX12, "compute", "(III)I"⟩
abbrev cX12_caseOf : ByteArray := prog_14_method_86_code
def yX12_caseOf : MethodName := ⟨RX12, "caseOf", "(II)I"⟩
abbrev cX12_act : ByteArray := prog_14_method_87_code
def yX12_act : MethodName := ⟨RX12, "act", "(I)V"⟩
abbrev cX12_ends : ByteArray := prog_14_method_88_code
def yX12_ends : MethodName := ⟨RX12, "ends", "(II)V"⟩
abbrev cX12_others : ByteArray := prog_14_method_89_code
def yX12_others : MethodName := ⟨RX12, "others", "(II)V"⟩
abbrev cX12_goOn : ByteArray := prog_14_method_90_code
def yX12_goOn : MethodName := ⟨RX12, "goOn", "(I)V"⟩
abbrev cX12_run : ByteArray := prog_14_method_91_code
def yX12_run : MethodName := ⟨RX12, "run", "(II)I"⟩
abbrev cX12_ran : ByteArray := prog_14_method_92_code
def yX12_ran : MethodName := ⟨RX12, "ran", "(I)I"⟩
abbrev cX12_trace : ByteArray := prog_14_method_93_code
def yX12_trace : MethodName := ⟨RX12, "trace", "(II)I"⟩
abbrev cX12_suppressed : ByteArray := prog_14_method_94_code
def yX12_suppressed : MethodName := ⟨RX12, "suppressed", "(II)I"⟩
abbrev cX12_rounds : ByteArray := prog_14_method_95_code
def yX12_rounds : MethodName := ⟨RX12, "rounds", "(II)I"⟩
def RJ9 : String := "java/lang/Math"
def TJ9 : u_T := fun k => match k with
  | _ => ("", "", "", false)
def tyJ9 : Nat → FieldType := fun k => match k with
  | _ => .int
abbrev wsJ90 : List Cond := u_ws RJ9 TJ9 0
theorem nmJ9 : ∀ a, a < 0 → ∀ b, b < 0 → a ≠ b → (TJ9 a).2.1 ≠ (TJ9 b).2.1 := by decide +kernel
theorem tyJ9_ok : ∀ k, k < 0 → parseFieldDescriptor (TJ9 k).2.2.1 = some (tyJ9 k) := by decide +kernel
abbrev cJ9_max_7cf53 : ByteArray := prog_17_method_65_code
def yJ9_max_7cf53 : MethodName := ⟨RJ9, "max", "(II)I"⟩
abbrev cJ9_min_7cf53 : ByteArray := prog_17_method_69_code
def yJ9_min_7cf53 : MethodName := ⟨RJ9, "min", "(II)I"⟩
def RJ0 : String := "java/lang/String"
def TJ0 : u_T := fun k => match k with
  | _ => ("", "", "", false)
def tyJ0 : Nat → FieldType := fun k => match k with
  | _ => .int
abbrev wsJ00 : List Cond := u_ws RJ0 TJ0 0
theorem nmJ0 : ∀ a, a < 0 → ∀ b, b < 0 → a ≠ b → (TJ0 a).2.1 ≠ (TJ0 b).2.1 := by decide +kernel
theorem tyJ0_ok : ∀ k, k < 0 → parseFieldDescriptor (TJ0 k).2.2.1 = some (tyJ0 k) := by decide +kernel
abbrev cJ0_length_8abf5 : ByteArray := prog_19_method_54_code
def yJ0_length_8abf5 : MethodName := ⟨RJ0, "length", "()I"⟩
abbrev cJ0_charAt_5068e : ByteArray := prog_19_method_56_code
def yJ0_charAt_5068e : MethodName := ⟨RJ0, "charAt", "(I)C"⟩
abbrev cJ0_coder_7d493 : ByteArray := prog_19_method_152_code
def yJ0_coder_7d493 : MethodName := ⟨RJ0, "coder", "()B"⟩
abbrev cJ0_isLatin1_aae02 : ByteArray := prog_19_method_154_code
def yJ0_isLatin1_aae02 : MethodName := ⟨RJ0, "isLatin1", "()Z"⟩
abbrev cJ0_checkIndex_df160 : ByteArray := prog_19_method_155_code
def yJ0_checkIndex_df160 : MethodName := ⟨RJ0, "checkIndex", "(II)V"⟩
def RJ1 : String := "java/lang/StringLatin1"
def TJ1 : u_T := fun k => match k with
  | _ => ("", "", "", false)
def tyJ1 : Nat → FieldType := fun k => match k with
  | _ => .int
abbrev wsJ10 : List Cond := u_ws RJ1 TJ1 0
theorem nmJ1 : ∀ a, a < 0 → ∀ b, b < 0 → a ≠ b → (TJ1 a).2.1 ≠ (TJ1 b).2.1 := by decide +kernel
theorem tyJ1_ok : ∀ k, k < 0 → parseFieldDescriptor (TJ1 k).2.2.1 = some (tyJ1 k) := by decide +kernel
abbrev cJ1_charAt_3b067 : ByteArray := prog_20_method_2_code
def yJ1_charAt_3b067 : MethodName := ⟨RJ1, "charAt", "([BI)C"⟩
def RJ2 : String := "java/lang/StringUTF16"
def TJ2 : u_T := fun k => match k with
  | _ => ("", "", "", false)
def tyJ2 : Nat → FieldType := fun k => match k with
  | _ => .int
abbrev wsJ20 : List Cond := u_ws RJ2 TJ2 0
theorem nmJ2 : ∀ a, a < 0 → ∀ b, b < 0 → a ≠ b → (TJ2 a).2.1 ≠ (TJ2 b).2.1 := by decide +kernel
theorem tyJ2_ok : ∀ k, k < 0 → parseFieldDescriptor (TJ2 k).2.2.1 = some (tyJ2 k) := by decide +kernel
abbrev cJ2_getChar_3b067 : ByteArray := prog_21_method_5_code
def yJ2_getChar_3b067 : MethodName := ⟨RJ2, "getChar", "([BI)C"⟩
abbrev cJ2_length_9d52b : ByteArray := prog_21_method_6_code
def yJ2_length_9d52b : MethodName := ⟨RJ2, "length", "([B)I"⟩
abbrev cJ2_charAt_3b067 : ByteArray := prog_21_method_83_code
def yJ2_charAt_3b067 : MethodName := ⟨RJ2, "charAt", "([BI)C"⟩
abbrev cJ2_checkIndex_2214a : ByteArray := prog_21_method_91_code
def yJ2_checkIndex_2214a : MethodName := ⟨RJ2, "checkIndex", "(I[B)V"⟩
def RJ3 : String := "jdk/internal/util/Preconditions"
def TJ3 : u_T := fun k => match k with
  | _ => ("", "", "", false)
def tyJ3 : Nat → FieldType := fun k => match k with
  | _ => .int
abbrev wsJ30 : List Cond := u_ws RJ3 TJ3 0
theorem nmJ3 : ∀ a, a < 0 → ∀ b, b < 0 → a ≠ b → (TJ3 a).2.1 ≠ (TJ3 b).2.1 := by decide +kernel
theorem tyJ3_ok : ∀ k, k < 0 → parseFieldDescriptor (TJ3 k).2.2.1 = some (tyJ3 k) := by decide +kernel
abbrev cJ3_checkIndex_8e157 : ByteArray := prog_23_method_11_code
def yJ3_checkIndex_8e157 : MethodName := ⟨RJ3, "checkIndex", "(IILjava/util/function/BiFunction;)I"⟩
def RL : String := "StatementRules2Law"
abbrev cL_rounds : ByteArray := method_3_code
def yL_rounds : MethodName := ⟨RL, "rounds", "(LStatementRules2;II[J)I"⟩
abbrev cL_law : ByteArray := code
def yL_law : MethodName := ⟨RL, "law", "([I)Z"⟩
theorem inJ9 : ∀ w ∈ wsJ90, w ∈ lw_tbl := by decide +kernel
theorem inJ0 : ∀ w ∈ wsJ00, w ∈ lw_tbl := by decide +kernel
theorem inJ1 : ∀ w ∈ wsJ10, w ∈ lw_tbl := by decide +kernel
theorem inJ2 : ∀ w ∈ wsJ20, w ∈ lw_tbl := by decide +kernel
theorem inJ3 : ∀ w ∈ wsJ30, w ∈ lw_tbl := by decide +kernel
abbrev vwCl : List vw_C := [(RX0, TX0, 13), (RX2, TX2, 8), (RX3, TX3, 20), (RX4, TX4, 4), (RX5, TX5, 17), (RX6, TX6, 6), (RX7, TX7, 11), (RX8, TX8, 5), (RX9, TX9, 8), (RX10, TX10, 6), (RX11, TX11, 9), (RX12, TX12, 116)]
end
section
theorem dX12_in_0 : decode cX12_in 0 = .ok (.iload_n 0, 1) := by decide +kernel
theorem dX12_in_1 : decode cX12_in 1 = .ok (.iload_n 1, 1) := by decide +kernel
theorem dX12_in_2 : decode cX12_in 2 = .ok (.if_icmp .lt 12, 3) := by decide +kernel
theorem dX12_in_5 : decode cX12_in 5 = .ok (.iload_n 0, 1) := by decide +kernel
theorem dX12_in_6 : decode cX12_in 6 = .ok (.iload_n 2, 1) := by decide +kernel
theorem dX12_in_7 : decode cX12_in 7 = .ok (.if_icmp .gt 7, 3) := by decide +kernel
theorem dX12_in_10 : decode cX12_in 10 = .ok (.iconst 1, 1) := by decide +kernel
theorem dX12_in_11 : decode cX12_in 11 = .ok (.goto 4, 3) := by decide +kernel
theorem dX12_in_14 : decode cX12_in 14 = .ok (.iconst 0, 1) := by decide +kernel
theorem dX12_in_15 : decode cX12_in 15 = .ok (.ireturn, 1) := by decide +kernel
theorem dX12_feed_0 : decode cX12_feed 0 = .ok (.aload_n 0, 1) := by decide +kernel
theorem dX12_feed_1 : decode cX12_feed 1 = .ok (.iconst 0, 1) := by decide +kernel
theorem dX12_feed_2 : decode cX12_feed 2 = .ok (.putfield 273, 3) := by decide +kernel
theorem dX12_feed_5 : decode cX12_feed 5 = .ok (.aload_n 0, 1) := by decide +kernel
theorem dX12_feed_6 : decode cX12_feed 6 = .ok (.getfield 276, 3) := by decide +kernel
theorem dX12_feed_9 : decode cX12_feed 9 = .ok (.bipush 20, 2) := by decide +kernel
theorem dX12_feed_11 : decode cX12_feed 11 = .ok (.iadd, 1) := by decide +kernel
theorem dX12_feed_12 : decode cX12_feed 12 = .ok (.sipush 900, 3) := by decide +kernel
theorem dX12_feed_15 : decode cX12_feed 15 = .ok (.if_icmp .le 6, 3) := by decide +kernel
theorem dX12_feed_18 : decode cX12_feed 18 = .ok (.bipush (-2), 2) := by decide +kernel
theorem dX12_feed_20 : decode cX12_feed 20 = .ok (.ireturn, 1) := by decide +kernel
theorem dX12_feed_21 : decode cX12_feed 21 = .ok (.iconst 0, 1) := by decide +kernel
theorem dX12_feed_22 : decode cX12_feed 22 = .ok (.istore 6, 2) := by decide +kernel
theorem dX12_feed_24 : decode cX12_feed 24 = .ok (.iload 6, 2) := by decide +kernel
theorem dX12_feed_26 : decode cX12_feed 26 = .ok (.bipush 20, 2) := by decide +kernel
theorem dX12_feed_28 : decode cX12_feed 28 = .ok (.if_icmp .ge 86, 3) := by decide +kernel
theorem dX12_feed_31 : decode cX12_feed 31 = .ok (.iload 6, 2) := by decide +kernel
theorem dX12_feed_33 : decode cX12_feed 33 = .ok (.iconst 4, 1) := by decide +kernel
theorem dX12_feed_34 : decode cX12_feed 34 = .ok (.if_icmp .ge 7, 3) := by decide +kernel
theorem dX12_feed_37 : decode cX12_feed 37 = .ok (.iload_n 1, 1) := by decide +kernel
theorem dX12_feed_38 : decode cX12_feed 38 = .ok (.goto 39, 3) := by decide +kernel
theorem dX12_feed_41 : decode cX12_feed 41 = .ok (.iload 6, 2) := by decide +kernel
theorem dX12_feed_43 : decode cX12_feed 43 = .ok (.bipush 8, 2) := by decide +kernel
theorem dX12_feed_45 : decode cX12_feed 45 = .ok (.if_icmp .ge 7, 3) := by decide +kernel
theorem dX12_feed_48 : decode cX12_feed 48 = .ok (.iload_n 2, 1) := by decide +kernel
theorem dX12_feed_49 : decode cX12_feed 49 = .ok (.goto 28, 3) := by decide +kernel
theorem dX12_feed_52 : decode cX12_feed 52 = .ok (.iload 6, 2) := by decide +kernel
theorem dX12_feed_54 : decode cX12_feed 54 = .ok (.bipush 12, 2) := by decide +kernel
theorem dX12_feed_56 : decode cX12_feed 56 = .ok (.if_icmp .ge 7, 3) := by decide +kernel
theorem dX12_feed_59 : decode cX12_feed 59 = .ok (.iload_n 3, 1) := by decide +kernel
theorem dX12_feed_60 : decode cX12_feed 60 = .ok (.goto 17, 3) := by decide +kernel
theorem dX12_feed_63 : decode cX12_feed 63 = .ok (.iload 6, 2) := by decide +kernel
theorem dX12_feed_65 : decode cX12_feed 65 = .ok (.bipush 16, 2) := by decide +kernel
theorem dX12_feed_67 : decode cX12_feed 67 = .ok (.if_icmp .ge 8, 3) := by decide +kernel
theorem dX12_feed_70 : decode cX12_feed 70 = .ok (.iload 4, 2) := by decide +kernel
theorem dX12_feed_72 : decode cX12_feed 72 = .ok (.goto 5, 3) := by decide +kernel
theorem dX12_feed_75 : decode cX12_feed 75 = .ok (.iload 5, 2) := by decide +kernel
theorem dX12_feed_77 : decode cX12_feed 77 = .ok (.istore 7, 2) := by decide +kernel
theorem dX12_feed_79 : decode cX12_feed 79 = .ok (.aload_n 0, 1) := by decide +kernel
theorem dX12_feed_80 : decode cX12_feed 80 = .ok (.getfield 7, 3) := by decide +kernel
theorem dX12_feed_83 : decode cX12_feed 83 = .ok (.aload_n 0, 1) := by decide +kernel
theorem dX12_feed_84 : decode cX12_feed 84 = .ok (.getfield 276, 3) := by decide +kernel
theorem dX12_feed_87 : decode cX12_feed 87 = .ok (.iload 6, 2) := by decide +kernel
theorem dX12_feed_89 : decode cX12_feed 89 = .ok (.iadd, 1) := by decide +kernel
theorem dX12_feed_90 : decode cX12_feed 90 = .ok (.iload 7, 2) := by decide +kernel
theorem dX12_feed_92 : decode cX12_feed 92 = .ok (.bipush 24, 2) := by decide +kernel
theorem dX12_feed_94 : decode cX12_feed 94 = .ok (.bipush 8, 2) := by decide +kernel
theorem dX12_feed_96 : decode cX12_feed 96 = .ok (.iload 6, 2) := by decide +kernel
theorem dX12_feed_98 : decode cX12_feed 98 = .ok (.iconst 4, 1) := by decide +kernel
theorem dX12_feed_99 : decode cX12_feed 99 = .ok (.irem, 1) := by decide +kernel
theorem dX12_feed_100 : decode cX12_feed 100 = .ok (.imul, 1) := by decide +kernel
theorem dX12_feed_101 : decode cX12_feed 101 = .ok (.isub, 1) := by decide +kernel
theorem dX12_feed_102 : decode cX12_feed 102 = .ok (.ishr, 1) := by decide +kernel
theorem dX12_feed_103 : decode cX12_feed 103 = .ok (.sipush 255, 3) := by decide +kernel
theorem dX12_feed_106 : decode cX12_feed 106 = .ok (.iand, 1) := by decide +kernel
theorem dX12_feed_107 : decode cX12_feed 107 = .ok (.iastore, 1) := by decide +kernel
theorem dX12_feed_108 : decode cX12_feed 108 = .ok (.iinc 6 1, 3) := by decide +kernel
theorem dX12_feed_111 : decode cX12_feed 111 = .ok (.goto (-87), 3) := by decide +kernel
theorem dX12_feed_114 : decode cX12_feed 114 = .ok (.aload_n 0, 1) := by decide +kernel
theorem dX12_feed_115 : decode cX12_feed 115 = .ok (.dup, 1) := by decide +kernel
theorem dX12_feed_116 : decode cX12_feed 116 = .ok (.getfield 276, 3) := by decide +kernel
theorem dX12_feed_119 : decode cX12_feed 119 = .ok (.bipush 20, 2) := by decide +kernel
theorem dX12_feed_121 : decode cX12_feed 121 = .ok (.iadd, 1) := by decide +kernel
theorem dX12_feed_122 : decode cX12_feed 122 = .ok (.putfield 276, 3) := by decide +kernel
theorem dX12_feed_125 : decode cX12_feed 125 = .ok (.aload_n 0, 1) := by decide +kernel
theorem dX12_feed_126 : decode cX12_feed 126 = .ok (.getfield 276, 3) := by decide +kernel
theorem dX12_feed_129 : decode cX12_feed 129 = .ok (.ireturn, 1) := by decide +kernel
theorem dX12_cut_0 : decode cX12_cut 0 = .ok (.aload_n 0, 1) := by decide +kernel
theorem dX12_cut_1 : decode cX12_cut 1 = .ok (.iconst 0, 1) := by decide +kernel
theorem dX12_cut_2 : decode cX12_cut 2 = .ok (.putfield 273, 3) := by decide +kernel
theorem dX12_cut_5 : decode cX12_cut 5 = .ok (.iload_n 1, 1) := by decide +kernel
theorem dX12_cut_6 : decode cX12_cut 6 = .ok (.iconst 0, 1) := by decide +kernel
theorem dX12_cut_7 : decode cX12_cut 7 = .ok (.aload_n 0, 1) := by decide +kernel
theorem dX12_cut_8 : decode cX12_cut 8 = .ok (.getfield 276, 3) := by decide +kernel
theorem dX12_cut_11 : decode cX12_cut 11 = .ok (.invokestatic 279, 3) := by decide +kernel
theorem dX12_cut_14 : decode cX12_cut 14 = .ok (.ifCond .ne 5, 3) := by decide +kernel
theorem dX12_cut_17 : decode cX12_cut 17 = .ok (.iconst (-1), 1) := by decide +kernel
theorem dX12_cut_18 : decode cX12_cut 18 = .ok (.ireturn, 1) := by decide +kernel
theorem dX12_cut_19 : decode cX12_cut 19 = .ok (.aload_n 0, 1) := by decide +kernel
theorem dX12_cut_20 : decode cX12_cut 20 = .ok (.getfield 276, 3) := by decide +kernel
theorem dX12_cut_23 : decode cX12_cut 23 = .ok (.iload_n 1, 1) := by decide +kernel
theorem dX12_cut_24 : decode cX12_cut 24 = .ok (.isub, 1) := by decide +kernel
theorem dX12_cut_25 : decode cX12_cut 25 = .ok (.istore_n 2, 1) := by decide +kernel
theorem dX12_cut_26 : decode cX12_cut 26 = .ok (.aload_n 0, 1) := by decide +kernel
theorem dX12_cut_27 : decode cX12_cut 27 = .ok (.iload_n 1, 1) := by decide +kernel
theorem dX12_cut_28 : decode cX12_cut 28 = .ok (.putfield 276, 3) := by decide +kernel
theorem dX12_cut_31 : decode cX12_cut 31 = .ok (.iload_n 2, 1) := by decide +kernel
theorem dX12_cut_32 : decode cX12_cut 32 = .ok (.ireturn, 1) := by decide +kernel
theorem dX12_kind_0 : decode cX12_kind 0 = .ok (.aload_n 0, 1) := by decide +kernel
theorem dX12_kind_1 : decode cX12_kind 1 = .ok (.iconst 0, 1) := by decide +kernel
theorem dX12_kind_2 : decode cX12_kind 2 = .ok (.putfield 273, 3) := by decide +kernel
theorem dX12_kind_5 : decode cX12_kind 5 = .ok (.iload_n 1, 1) := by decide +kernel
theorem dX12_kind_6 : decode cX12_kind 6 = .ok (.iconst 0, 1) := by decide +kernel
theorem dX12_kind_7 : decode cX12_kind 7 = .ok (.aload_n 0, 1) := by decide +kernel
theorem dX12_kind_8 : decode cX12_kind 8 = .ok (.getfield 13, 3) := by decide +kernel
theorem dX12_kind_11 : decode cX12_kind 11 = .ok (.iconst 1, 1) := by decide +kernel
theorem dX12_kind_12 : decode cX12_kind 12 = .ok (.isub, 1) := by decide +kernel
theorem dX12_kind_13 : decode cX12_kind 13 = .ok (.invokestatic 279, 3) := by decide +kernel
theorem dX12_kind_16 : decode cX12_kind 16 = .ok (.ifCond .ne 5, 3) := by decide +kernel
theorem dX12_kind_19 : decode cX12_kind 19 = .ok (.iconst (-1), 1) := by decide +kernel
theorem dX12_kind_20 : decode cX12_kind 20 = .ok (.ireturn, 1) := by decide +kernel
theorem dX12_kind_21 : decode cX12_kind 21 = .ok (.aload_n 0, 1) := by decide +kernel
theorem dX12_kind_22 : decode cX12_kind 22 = .ok (.getfield 13, 3) := by decide +kernel
theorem dX12_kind_25 : decode cX12_kind 25 = .ok (.bipush 12, 2) := by decide +kernel
theorem dX12_kind_27 : decode cX12_kind 27 = .ok (.if_icmp .ne 6, 3) := by decide +kernel
theorem dX12_kind_30 : decode cX12_kind 30 = .ok (.bipush (-2), 2) := by decide +kernel
theorem dX12_kind_32 : decode cX12_kind 32 = .ok (.ireturn, 1) := by decide +kernel
theorem dX12_kind_33 : decode cX12_kind 33 = .ok (.aload_n 0, 1) := by decide +kernel
theorem dX12_kind_34 : decode cX12_kind 34 = .ok (.getfield 17, 3) := by decide +kernel
theorem dX12_kind_37 : decode cX12_kind 37 = .ok (.aload_n 0, 1) := by decide +kernel
theorem dX12_kind_38 : decode cX12_kind 38 = .ok (.getfield 13, 3) := by decide +kernel
theorem dX12_kind_41 : decode cX12_kind 41 = .ok (.iload_n 1, 1) := by decide +kernel
theorem dX12_kind_42 : decode cX12_kind 42 = .ok (.iastore, 1) := by decide +kernel
theorem dX12_kind_43 : decode cX12_kind 43 = .ok (.aload_n 0, 1) := by decide +kernel
theorem dX12_kind_44 : decode cX12_kind 44 = .ok (.dup, 1) := by decide +kernel
theorem dX12_kind_45 : decode cX12_kind 45 = .ok (.getfield 13, 3) := by decide +kernel
theorem dX12_kind_48 : decode cX12_kind 48 = .ok (.iconst 1, 1) := by decide +kernel
theorem dX12_kind_49 : decode cX12_kind 49 = .ok (.iadd, 1) := by decide +kernel
theorem dX12_kind_50 : decode cX12_kind 50 = .ok (.putfield 13, 3) := by decide +kernel
theorem dX12_kind_53 : decode cX12_kind 53 = .ok (.aload_n 0, 1) := by decide +kernel
theorem dX12_kind_54 : decode cX12_kind 54 = .ok (.getfield 13, 3) := by decide +kernel
theorem dX12_kind_57 : decode cX12_kind 57 = .ok (.iconst 1, 1) := by decide +kernel
theorem dX12_kind_58 : decode cX12_kind 58 = .ok (.isub, 1) := by decide +kernel
theorem dX12_kind_59 : decode cX12_kind 59 = .ok (.ireturn, 1) := by decide +kernel
theorem dX12_isUnder_0 : decode cX12_isUnder 0 = .ok (.iload_n 1, 1) := by decide +kernel
theorem dX12_isUnder_1 : decode cX12_isUnder 1 = .ok (.istore_n 3, 1) := by decide +kernel
theorem dX12_isUnder_2 : decode cX12_isUnder 2 = .ok (.iload_n 3, 1) := by decide +kernel
theorem dX12_isUnder_3 : decode cX12_isUnder 3 = .ok (.iload_n 2, 1) := by decide +kernel
theorem dX12_isUnder_4 : decode cX12_isUnder 4 = .ok (.if_icmp .eq 17, 3) := by decide +kernel
theorem dX12_isUnder_7 : decode cX12_isUnder 7 = .ok (.iload_n 3, 1) := by decide +kernel
theorem dX12_isUnder_8 : decode cX12_isUnder 8 = .ok (.ifCond .le 13, 3) := by decide +kernel
theorem dX12_isUnder_11 : decode cX12_isUnder 11 = .ok (.aload_n 0, 1) := by decide +kernel
theorem dX12_isUnder_12 : decode cX12_isUnder 12 = .ok (.getfield 17, 3) := by decide +kernel
theorem dX12_isUnder_15 : decode cX12_isUnder 15 = .ok (.iload_n 3, 1) := by decide +kernel
theorem dX12_isUnder_16 : decode cX12_isUnder 16 = .ok (.iaload, 1) := by decide +kernel
theorem dX12_isUnder_17 : decode cX12_isUnder 17 = .ok (.istore_n 3, 1) := by decide +kernel
theorem dX12_isUnder_18 : decode cX12_isUnder 18 = .ok (.goto (-16), 3) := by decide +kernel
theorem dX12_isUnder_21 : decode cX12_isUnder 21 = .ok (.iload_n 3, 1) := by decide +kernel
theorem dX12_isUnder_22 : decode cX12_isUnder 22 = .ok (.iload_n 2, 1) := by decide +kernel
theorem dX12_isUnder_23 : decode cX12_isUnder 23 = .ok (.if_icmp .ne 7, 3) := by decide +kernel
theorem dX12_isUnder_26 : decode cX12_isUnder 26 = .ok (.iconst 1, 1) := by decide +kernel
theorem dX12_isUnder_27 : decode cX12_isUnder 27 = .ok (.goto 4, 3) := by decide +kernel
theorem dX12_isUnder_30 : decode cX12_isUnder 30 = .ok (.iconst 0, 1) := by decide +kernel
theorem dX12_isUnder_31 : decode cX12_isUnder 31 = .ok (.ireturn, 1) := by decide +kernel
theorem dX12_under_0 : decode cX12_under 0 = .ok (.aload_n 0, 1) := by decide +kernel
theorem dX12_under_1 : decode cX12_under 1 = .ok (.iconst 0, 1) := by decide +kernel
theorem dX12_under_2 : decode cX12_under 2 = .ok (.putfield 273, 3) := by decide +kernel
theorem dX12_under_5 : decode cX12_under 5 = .ok (.iload_n 1, 1) := by decide +kernel
theorem dX12_under_6 : decode cX12_under 6 = .ok (.iconst 0, 1) := by decide +kernel
theorem dX12_under_7 : decode cX12_under 7 = .ok (.aload_n 0, 1) := by decide +kernel
theorem dX12_under_8 : decode cX12_under 8 = .ok (.getfield 13, 3) := by decide +kernel
theorem dX12_under_11 : decode cX12_under 11 = .ok (.iconst 1, 1) := by decide +kernel
theorem dX12_under_12 : decode cX12_under 12 = .ok (.isub, 1) := by decide +kernel
theorem dX12_under_13 : decode cX12_under 13 = .ok (.invokestatic 279, 3) := by decide +kernel
theorem dX12_under_16 : decode cX12_under 16 = .ok (.ifCond .eq 17, 3) := by decide +kernel
theorem dX12_under_19 : decode cX12_under 19 = .ok (.iload_n 2, 1) := by decide +kernel
theorem dX12_under_20 : decode cX12_under 20 = .ok (.iconst 0, 1) := by decide +kernel
theorem dX12_under_21 : decode cX12_under 21 = .ok (.aload_n 0, 1) := by decide +kernel
theorem dX12_under_22 : decode cX12_under 22 = .ok (.getfield 13, 3) := by decide +kernel
theorem dX12_under_25 : decode cX12_under 25 = .ok (.iconst 1, 1) := by decide +kernel
theorem dX12_under_26 : decode cX12_under 26 = .ok (.isub, 1) := by decide +kernel
theorem dX12_under_27 : decode cX12_under 27 = .ok (.invokestatic 279, 3) := by decide +kernel
theorem dX12_under_30 : decode cX12_under 30 = .ok (.ifCond .ne 5, 3) := by decide +kernel
theorem dX12_under_33 : decode cX12_under 33 = .ok (.iconst (-1), 1) := by decide +kernel
theorem dX12_under_34 : decode cX12_under 34 = .ok (.ireturn, 1) := by decide +kernel
theorem dX12_under_35 : decode cX12_under 35 = .ok (.aload_n 0, 1) := by decide +kernel
theorem dX12_under_36 : decode cX12_under 36 = .ok (.iload_n 1, 1) := by decide +kernel
theorem dX12_under_37 : decode cX12_under 37 = .ok (.iload_n 2, 1) := by decide +kernel
theorem dX12_under_38 : decode cX12_under 38 = .ok (.invokevirtual 283, 3) := by decide +kernel
theorem dX12_under_41 : decode cX12_under 41 = .ok (.ifCond .eq 7, 3) := by decide +kernel
theorem dX12_under_44 : decode cX12_under 44 = .ok (.iconst 1, 1) := by decide +kernel
theorem dX12_under_45 : decode cX12_under 45 = .ok (.goto 4, 3) := by decide +kernel
theorem dX12_under_48 : decode cX12_under 48 = .ok (.iconst 0, 1) := by decide +kernel
theorem dX12_under_49 : decode cX12_under 49 = .ok (.ireturn, 1) := by decide +kernel
theorem dX12_resource_0 : decode cX12_resource 0 = .ok (.aload_n 0, 1) := by decide +kernel
theorem dX12_resource_1 : decode cX12_resource 1 = .ok (.iconst 0, 1) := by decide +kernel
theorem dX12_resource_2 : decode cX12_resource 2 = .ok (.putfield 273, 3) := by decide +kernel
theorem dX12_resource_5 : decode cX12_resource 5 = .ok (.iload_n 1, 1) := by decide +kernel
theorem dX12_resource_6 : decode cX12_resource 6 = .ok (.iconst 0, 1) := by decide +kernel
theorem dX12_resource_7 : decode cX12_resource 7 = .ok (.bipush 7, 2) := by decide +kernel
theorem dX12_resource_9 : decode cX12_resource 9 = .ok (.invokestatic 279, 3) := by decide +kernel
theorem dX12_resource_12 : decode cX12_resource 12 = .ok (.ifCond .eq 41, 3) := by decide +kernel
theorem dX12_resource_15 : decode cX12_resource 15 = .ok (.iload_n 2, 1) := by decide +kernel
theorem dX12_resource_16 : decode cX12_resource 16 = .ok (.iconst 0, 1) := by decide +kernel
theorem dX12_resource_17 : decode cX12_resource 17 = .ok (.iconst 1, 1) := by decide +kernel
theorem dX12_resource_18 : decode cX12_resource 18 = .ok (.invokestatic 279, 3) := by decide +kernel
theorem dX12_resource_21 : decode cX12_resource 21 = .ok (.ifCond .eq 32, 3) := by decide +kernel
theorem dX12_resource_24 : decode cX12_resource 24 = .ok (.iload_n 3, 1) := by decide +kernel
theorem dX12_resource_25 : decode cX12_resource 25 = .ok (.iconst (-1), 1) := by decide +kernel
theorem dX12_resource_26 : decode cX12_resource 26 = .ok (.aload_n 0, 1) := by decide +kernel
theorem dX12_resource_27 : decode cX12_resource 27 = .ok (.getfield 13, 3) := by decide +kernel
theorem dX12_resource_30 : decode cX12_resource 30 = .ok (.iconst 1, 1) := by decide +kernel
theorem dX12_resource_31 : decode cX12_resource 31 = .ok (.isub, 1) := by decide +kernel
theorem dX12_resource_32 : decode cX12_resource 32 = .ok (.invokestatic 279, 3) := by decide +kernel
theorem dX12_resource_35 : decode cX12_resource 35 = .ok (.ifCond .eq 18, 3) := by decide +kernel
theorem dX12_resource_38 : decode cX12_resource 38 = .ok (.iload 4, 2) := by decide +kernel
theorem dX12_resource_40 : decode cX12_resource 40 = .ok (.iconst (-1), 1) := by decide +kernel
theorem dX12_resource_41 : decode cX12_resource 41 = .ok (.aload_n 0, 1) := by decide +kernel
theorem dX12_resource_42 : decode cX12_resource 42 = .ok (.getfield 13, 3) := by decide +kernel
theorem dX12_resource_45 : decode cX12_resource 45 = .ok (.iconst 1, 1) := by decide +kernel
theorem dX12_resource_46 : decode cX12_resource 46 = .ok (.isub, 1) := by decide +kernel
theorem dX12_resource_47 : decode cX12_resource 47 = .ok (.invokestatic 279, 3) := by decide +kernel
theorem dX12_resource_50 : decode cX12_resource 50 = .ok (.ifCond .ne 5, 3) := by decide +kernel
theorem dX12_resource_53 : decode cX12_resource 53 = .ok (.iconst (-1), 1) := by decide +kernel
theorem dX12_resource_54 : decode cX12_resource 54 = .ok (.ireturn, 1) := by decide +kernel
theorem dX12_resource_55 : decode cX12_resource 55 = .ok (.aload_n 0, 1) := by decide +kernel
theorem dX12_resource_56 : decode cX12_resource 56 = .ok (.getfield 20, 3) := by decide +kernel
theorem dX12_resource_59 : decode cX12_resource 59 = .ok (.iload_n 1, 1) := by decide +kernel
theorem dX12_resource_60 : decode cX12_resource 60 = .ok (.iload_n 2, 1) := by decide +kernel
theorem dX12_resource_61 : decode cX12_resource 61 = .ok (.iconst 1, 1) := by decide +kernel
theorem dX12_resource_62 : decode cX12_resource 62 = .ok (.if_icmp .ne 7, 3) := by decide +kernel
theorem dX12_resource_65 : decode cX12_resource 65 = .ok (.iconst 1, 1) := by decide +kernel
theorem dX12_resource_66 : decode cX12_resource 66 = .ok (.goto 4, 3) := by decide +kernel
theorem dX12_resource_69 : decode cX12_resource 69 = .ok (.iconst 0, 1) := by decide +kernel
theorem dX12_resource_70 : decode cX12_resource 70 = .ok (.bastore, 1) := by decide +kernel
theorem dX12_resource_71 : decode cX12_resource 71 = .ok (.aload_n 0, 1) := by decide +kernel
theorem dX12_resource_72 : decode cX12_resource 72 = .ok (.getfield 24, 3) := by decide +kernel
theorem dX12_resource_75 : decode cX12_resource 75 = .ok (.iload_n 1, 1) := by decide +kernel
theorem dX12_resource_76 : decode cX12_resource 76 = .ok (.iload_n 3, 1) := by decide +kernel
theorem dX12_resource_77 : decode cX12_resource 77 = .ok (.iconst 1, 1) := by decide +kernel
theorem dX12_resource_78 : decode cX12_resource 78 = .ok (.iadd, 1) := by decide +kernel
theorem dX12_resource_79 : decode cX12_resource 79 = .ok (.iastore, 1) := by decide +kernel
theorem dX12_resource_80 : decode cX12_resource 80 = .ok (.aload_n 0, 1) := by decide +kernel
theorem dX12_resource_81 : decode cX12_resource 81 = .ok (.getfield 27, 3) := by decide +kernel
theorem dX12_resource_84 : decode cX12_resource 84 = .ok (.iload_n 1, 1) := by decide +kernel
theorem dX12_resource_85 : decode cX12_resource 85 = .ok (.iload 4, 2) := by decide +kernel
theorem dX12_resource_87 : decode cX12_resource 87 = .ok (.iconst 1, 1) := by decide +kernel
theorem dX12_resource_88 : decode cX12_resource 88 = .ok (.iadd, 1) := by decide +kernel
theorem dX12_resource_89 : decode cX12_resource 89 = .ok (.iastore, 1) := by decide +kernel
theorem dX12_resource_90 : decode cX12_resource 90 = .ok (.iconst 1, 1) := by decide +kernel
theorem dX12_resource_91 : decode cX12_resource 91 = .ok (.ireturn, 1) := by decide +kernel
theorem dX12_asserts_0 : decode cX12_asserts 0 = .ok (.aload_n 0, 1) := by decide +kernel
theorem dX12_asserts_1 : decode cX12_asserts 1 = .ok (.iconst 0, 1) := by decide +kernel
theorem dX12_asserts_2 : decode cX12_asserts 2 = .ok (.putfield 273, 3) := by decide +kernel
theorem dX12_asserts_5 : decode cX12_asserts 5 = .ok (.aload_n 0, 1) := by decide +kernel
theorem dX12_asserts_6 : decode cX12_asserts 6 = .ok (.getfield 287, 3) := by decide +kernel
theorem dX12_asserts_9 : decode cX12_asserts 9 = .ok (.ifCond .eq 7, 3) := by decide +kernel
theorem dX12_asserts_12 : decode cX12_asserts 12 = .ok (.iconst 1, 1) := by decide +kernel
theorem dX12_asserts_13 : decode cX12_asserts 13 = .ok (.goto 4, 3) := by decide +kernel
theorem dX12_asserts_16 : decode cX12_asserts 16 = .ok (.iconst 0, 1) := by decide +kernel
theorem dX12_asserts_17 : decode cX12_asserts 17 = .ok (.istore_n 2, 1) := by decide +kernel
theorem dX12_asserts_18 : decode cX12_asserts 18 = .ok (.aload_n 0, 1) := by decide +kernel
theorem dX12_asserts_19 : decode cX12_asserts 19 = .ok (.iload_n 1, 1) := by decide +kernel
theorem dX12_asserts_20 : decode cX12_asserts 20 = .ok (.putfield 287, 3) := by decide +kernel
theorem dX12_asserts_23 : decode cX12_asserts 23 = .ok (.iload_n 2, 1) := by decide +kernel
theorem dX12_asserts_24 : decode cX12_asserts 24 = .ok (.ireturn, 1) := by decide +kernel
theorem dX12_at_0 : decode cX12_at 0 = .ok (.iload_n 1, 1) := by decide +kernel
theorem dX12_at_1 : decode cX12_at 1 = .ok (.aload_n 0, 1) := by decide +kernel
theorem dX12_at_2 : decode cX12_at 2 = .ok (.getfield 276, 3) := by decide +kernel
theorem dX12_at_5 : decode cX12_at 5 = .ok (.if_icmp .ge 12, 3) := by decide +kernel
theorem dX12_at_8 : decode cX12_at 8 = .ok (.aload_n 0, 1) := by decide +kernel
theorem dX12_at_9 : decode cX12_at 9 = .ok (.getfield 7, 3) := by decide +kernel
theorem dX12_at_12 : decode cX12_at 12 = .ok (.iload_n 1, 1) := by decide +kernel
theorem dX12_at_13 : decode cX12_at 13 = .ok (.iaload, 1) := by decide +kernel
theorem dX12_at_14 : decode cX12_at 14 = .ok (.goto 4, 3) := by decide +kernel
theorem dX12_at_17 : decode cX12_at 17 = .ok (.iconst 0, 1) := by decide +kernel
theorem dX12_at_18 : decode cX12_at 18 = .ok (.ireturn, 1) := by decide +kernel
theorem dX12_isLetter_0 : decode cX12_isLetter 0 = .ok (.iload_n 0, 1) := by decide +kernel
theorem dX12_isLetter_1 : decode cX12_isLetter 1 = .ok (.bipush 97, 2) := by decide +kernel
theorem dX12_isLetter_3 : decode cX12_isLetter 3 = .ok (.if_icmp .lt 13, 3) := by decide +kernel
theorem dX12_isLetter_6 : decode cX12_isLetter 6 = .ok (.iload_n 0, 1) := by decide +kernel
theorem dX12_isLetter_7 : decode cX12_isLetter 7 = .ok (.bipush 122, 2) := by decide +kernel
theorem dX12_isLetter_9 : decode cX12_isLetter 9 = .ok (.if_icmp .gt 7, 3) := by decide +kernel
theorem dX12_isLetter_12 : decode cX12_isLetter 12 = .ok (.iconst 1, 1) := by decide +kernel
theorem dX12_isLetter_13 : decode cX12_isLetter 13 = .ok (.goto 4, 3) := by decide +kernel
theorem dX12_isLetter_16 : decode cX12_isLetter 16 = .ok (.iconst 0, 1) := by decide +kernel
theorem dX12_isLetter_17 : decode cX12_isLetter 17 = .ok (.ireturn, 1) := by decide +kernel
theorem dX12_isDigit_0 : decode cX12_isDigit 0 = .ok (.iload_n 0, 1) := by decide +kernel
theorem dX12_isDigit_1 : decode cX12_isDigit 1 = .ok (.bipush 48, 2) := by decide +kernel
theorem dX12_isDigit_3 : decode cX12_isDigit 3 = .ok (.if_icmp .lt 13, 3) := by decide +kernel
theorem dX12_isDigit_6 : decode cX12_isDigit 6 = .ok (.iload_n 0, 1) := by decide +kernel
theorem dX12_isDigit_7 : decode cX12_isDigit 7 = .ok (.bipush 57, 2) := by decide +kernel
theorem dX12_isDigit_9 : decode cX12_isDigit 9 = .ok (.if_icmp .gt 7, 3) := by decide +kernel
theorem dX12_isDigit_12 : decode cX12_isDigit 12 = .ok (.iconst 1, 1) := by decide +kernel
theorem dX12_isDigit_13 : decode cX12_isDigit 13 = .ok (.goto 4, 3) := by decide +kernel
theorem dX12_isDigit_16 : decode cX12_isDigit 16 = .ok (.iconst 0, 1) := by decide +kernel
theorem dX12_isDigit_17 : decode cX12_isDigit 17 = .ok (.ireturn, 1) := by decide +kernel
theorem dX12_next_0 : decode cX12_next 0 = .ok (.aload_n 0, 1) := by decide +kernel
theorem dX12_next_1 : decode cX12_next 1 = .ok (.getfield 291, 3) := by decide +kernel
theorem dX12_next_4 : decode cX12_next 4 = .ok (.ifCond .eq 4, 3) := by decide +kernel
theorem dX12_next_7 : decode cX12_next 7 = .ok (.return_, 1) := by decide +kernel
theorem dX12_next_8 : decode cX12_next 8 = .ok (.aload_n 0, 1) := by decide +kernel
theorem dX12_next_9 : decode cX12_next 9 = .ok (.dup, 1) := by decide +kernel
theorem dX12_next_10 : decode cX12_next 10 = .ok (.getfield 294, 3) := by decide +kernel
theorem dX12_next_13 : decode cX12_next 13 = .ok (.iconst 1, 1) := by decide +kernel
theorem dX12_next_14 : decode cX12_next 14 = .ok (.iadd, 1) := by decide +kernel
theorem dX12_next_15 : decode cX12_next 15 = .ok (.putfield 294, 3) := by decide +kernel
theorem dX12_next_18 : decode cX12_next 18 = .ok (.aload_n 0, 1) := by decide +kernel
theorem dX12_next_19 : decode cX12_next 19 = .ok (.getfield 297, 3) := by decide +kernel
theorem dX12_next_22 : decode cX12_next 22 = .ok (.aload_n 0, 1) := by decide +kernel
theorem dX12_next_23 : decode cX12_next 23 = .ok (.getfield 276, 3) := by decide +kernel
theorem dX12_next_26 : decode cX12_next 26 = .ok (.if_icmp .ge 42, 3) := by decide +kernel
theorem dX12_next_29 : decode cX12_next 29 = .ok (.aload_n 0, 1) := by decide +kernel
theorem dX12_next_30 : decode cX12_next 30 = .ok (.aload_n 0, 1) := by decide +kernel
theorem dX12_next_31 : decode cX12_next 31 = .ok (.getfield 297, 3) := by decide +kernel
theorem dX12_next_34 : decode cX12_next 34 = .ok (.invokevirtual 300, 3) := by decide +kernel
theorem dX12_next_37 : decode cX12_next 37 = .ok (.bipush 32, 2) := by decide +kernel
theorem dX12_next_39 : decode cX12_next 39 = .ok (.if_icmp .eq 16, 3) := by decide +kernel
theorem dX12_next_42 : decode cX12_next 42 = .ok (.aload_n 0, 1) := by decide +kernel
theorem dX12_next_43 : decode cX12_next 43 = .ok (.aload_n 0, 1) := by decide +kernel
theorem dX12_next_44 : decode cX12_next 44 = .ok (.getfield 297, 3) := by decide +kernel
theorem dX12_next_47 : decode cX12_next 47 = .ok (.invokevirtual 300, 3) := by decide +kernel
theorem dX12_next_50 : decode cX12_next 50 = .ok (.bipush 10, 2) := by decide +kernel
theorem dX12_next_52 : decode cX12_next 52 = .ok (.if_icmp .ne 16, 3) := by decide +kernel
theorem dX12_next_55 : decode cX12_next 55 = .ok (.aload_n 0, 1) := by decide +kernel
theorem dX12_next_56 : decode cX12_next 56 = .ok (.dup, 1) := by decide +kernel
theorem dX12_next_57 : decode cX12_next 57 = .ok (.getfield 297, 3) := by decide +kernel
theorem dX12_next_60 : decode cX12_next 60 = .ok (.iconst 1, 1) := by decide +kernel
theorem dX12_next_61 : decode cX12_next 61 = .ok (.iadd, 1) := by decide +kernel
theorem dX12_next_62 : decode cX12_next 62 = .ok (.putfield 297, 3) := by decide +kernel
theorem dX12_next_65 : decode cX12_next 65 = .ok (.goto (-47), 3) := by decide +kernel
theorem dX12_next_68 : decode cX12_next 68 = .ok (.aload_n 0, 1) := by decide +kernel
theorem dX12_next_69 : decode cX12_next 69 = .ok (.aload_n 0, 1) := by decide +kernel
theorem dX12_next_70 : decode cX12_next 70 = .ok (.getfield 297, 3) := by decide +kernel
theorem dX12_next_73 : decode cX12_next 73 = .ok (.putfield 304, 3) := by decide +kernel
theorem dX12_next_76 : decode cX12_next 76 = .ok (.aload_n 0, 1) := by decide +kernel
theorem dX12_next_77 : decode cX12_next 77 = .ok (.aload_n 0, 1) := by decide +kernel
theorem dX12_next_78 : decode cX12_next 78 = .ok (.getfield 304, 3) := by decide +kernel
theorem dX12_next_81 : decode cX12_next 81 = .ok (.invokevirtual 300, 3) := by decide +kernel
theorem dX12_next_84 : decode cX12_next 84 = .ok (.istore_n 1, 1) := by decide +kernel
theorem dX12_next_85 : decode cX12_next 85 = .ok (.aload_n 0, 1) := by decide +kernel
theorem dX12_next_86 : decode cX12_next 86 = .ok (.getfield 304, 3) := by decide +kernel
theorem dX12_next_89 : decode cX12_next 89 = .ok (.aload_n 0, 1) := by decide +kernel
theorem dX12_next_90 : decode cX12_next 90 = .ok (.getfield 276, 3) := by decide +kernel
theorem dX12_next_93 : decode cX12_next 93 = .ok (.if_icmp .ne 11, 3) := by decide +kernel
theorem dX12_next_96 : decode cX12_next 96 = .ok (.aload_n 0, 1) := by decide +kernel
theorem dX12_next_97 : decode cX12_next 97 = .ok (.iconst 0, 1) := by decide +kernel
theorem dX12_next_98 : decode cX12_next 98 = .ok (.putfield 307, 3) := by decide +kernel
theorem dX12_next_101 : decode cX12_next 101 = .ok (.goto 132, 3) := by decide +kernel
theorem dX12_next_104 : decode cX12_next 104 = .ok (.iload_n 1, 1) := by decide +kernel
theorem dX12_next_105 : decode cX12_next 105 = .ok (.invokestatic 310, 3) := by decide +kernel
theorem dX12_next_108 : decode cX12_next 108 = .ok (.ifCond .eq 106, 3) := by decide +kernel
theorem dX12_next_111 : decode cX12_next 111 = .ok (.aload_n 0, 1) := by decide +kernel
theorem dX12_next_112 : decode cX12_next 112 = .ok (.iconst 0, 1) := by decide +kernel
theorem dX12_next_113 : decode cX12_next 113 = .ok (.putfield 314, 3) := by decide +kernel
theorem dX12_next_116 : decode cX12_next 116 = .ok (.aload_n 0, 1) := by decide +kernel
theorem dX12_next_117 : decode cX12_next 117 = .ok (.aload_n 0, 1) := by decide +kernel
theorem dX12_next_118 : decode cX12_next 118 = .ok (.getfield 297, 3) := by decide +kernel
theorem dX12_next_121 : decode cX12_next 121 = .ok (.invokevirtual 300, 3) := by decide +kernel
theorem dX12_next_124 : decode cX12_next 124 = .ok (.invokestatic 310, 3) := by decide +kernel
theorem dX12_next_127 : decode cX12_next 127 = .ok (.ifCond .eq 60, 3) := by decide +kernel
theorem dX12_next_130 : decode cX12_next 130 = .ok (.aload_n 0, 1) := by decide +kernel
theorem dX12_next_131 : decode cX12_next 131 = .ok (.aload_n 0, 1) := by decide +kernel
theorem dX12_next_132 : decode cX12_next 132 = .ok (.getfield 297, 3) := by decide +kernel
theorem dX12_next_135 : decode cX12_next 135 = .ok (.aload_n 0, 1) := by decide +kernel
theorem dX12_next_136 : decode cX12_next 136 = .ok (.getfield 304, 3) := by decide +kernel
theorem dX12_next_139 : decode cX12_next 139 = .ok (.isub, 1) := by decide +kernel
theorem dX12_next_140 : decode cX12_next 140 = .ok (.bipush 9, 2) := by decide +kernel
theorem dX12_next_142 : decode cX12_next 142 = .ok (.if_icmp .ge 25, 3) := by decide +kernel
theorem dX12_next_145 : decode cX12_next 145 = .ok (.bipush 10, 2) := by decide +kernel
theorem dX12_next_147 : decode cX12_next 147 = .ok (.aload_n 0, 1) := by decide +kernel
theorem dX12_next_148 : decode cX12_next 148 = .ok (.getfield 314, 3) := by decide +kernel
theorem dX12_next_151 : decode cX12_next 151 = .ok (.imul, 1) := by decide +kernel
theorem dX12_next_152 : decode cX12_next 152 = .ok (.aload_n 0, 1) := by decide +kernel
theorem dX12_next_153 : decode cX12_next 153 = .ok (.aload_n 0, 1) := by decide +kernel
theorem dX12_next_154 : decode cX12_next 154 = .ok (.getfield 297, 3) := by decide +kernel
theorem dX12_next_157 : decode cX12_next 157 = .ok (.invokevirtual 300, 3) := by decide +kernel
theorem dX12_next_160 : decode cX12_next 160 = .ok (.iadd, 1) := by decide +kernel
theorem dX12_next_161 : decode cX12_next 161 = .ok (.bipush 48, 2) := by decide +kernel
theorem dX12_next_163 : decode cX12_next 163 = .ok (.isub, 1) := by decide +kernel
theorem dX12_next_164 : decode cX12_next 164 = .ok (.goto 7, 3) := by decide +kernel
theorem dX12_next_167 : decode cX12_next 167 = .ok (.aload_n 0, 1) := by decide +kernel
theorem dX12_next_168 : decode cX12_next 168 = .ok (.getfield 314, 3) := by decide +kernel
theorem dX12_next_171 : decode cX12_next 171 = .ok (.putfield 314, 3) := by decide +kernel
theorem dX12_next_174 : decode cX12_next 174 = .ok (.aload_n 0, 1) := by decide +kernel
theorem dX12_next_175 : decode cX12_next 175 = .ok (.dup, 1) := by decide +kernel
theorem dX12_next_176 : decode cX12_next 176 = .ok (.getfield 297, 3) := by decide +kernel
theorem dX12_next_179 : decode cX12_next 179 = .ok (.iconst 1, 1) := by decide +kernel
theorem dX12_next_180 : decode cX12_next 180 = .ok (.iadd, 1) := by decide +kernel
theorem dX12_next_181 : decode cX12_next 181 = .ok (.putfield 297, 3) := by decide +kernel
theorem dX12_next_184 : decode cX12_next 184 = .ok (.goto (-68), 3) := by decide +kernel
theorem dX12_next_187 : decode cX12_next 187 = .ok (.aload_n 0, 1) := by decide +kernel
theorem dX12_next_188 : decode cX12_next 188 = .ok (.aload_n 0, 1) := by decide +kernel
theorem dX12_next_189 : decode cX12_next 189 = .ok (.getfield 297, 3) := by decide +kernel
theorem dX12_next_192 : decode cX12_next 192 = .ok (.aload_n 0, 1) := by decide +kernel
theorem dX12_next_193 : decode cX12_next 193 = .ok (.getfield 304, 3) := by decide +kernel
theorem dX12_next_196 : decode cX12_next 196 = .ok (.isub, 1) := by decide +kernel
theorem dX12_next_197 : decode cX12_next 197 = .ok (.bipush 9, 2) := by decide +kernel
theorem dX12_next_199 : decode cX12_next 199 = .ok (.if_icmp .le 8, 3) := by decide +kernel
theorem dX12_next_202 : decode cX12_next 202 = .ok (.bipush 6, 2) := by decide +kernel
theorem dX12_next_204 : decode cX12_next 204 = .ok (.goto 4, 3) := by decide +kernel
theorem dX12_next_207 : decode cX12_next 207 = .ok (.iconst 1, 1) := by decide +kernel
theorem dX12_next_208 : decode cX12_next 208 = .ok (.putfield 307, 3) := by decide +kernel
theorem dX12_next_211 : decode cX12_next 211 = .ok (.goto 22, 3) := by decide +kernel
theorem dX12_next_214 : decode cX12_next 214 = .ok (.iload_n 1, 1) := by decide +kernel
theorem dX12_next_215 : decode cX12_next 215 = .ok (.invokestatic 317, 3) := by decide +kernel
theorem dX12_next_218 : decode cX12_next 218 = .ok (.ifCond .eq 10, 3) := by decide +kernel
theorem dX12_next_221 : decode cX12_next 221 = .ok (.aload_n 0, 1) := by decide +kernel
theorem dX12_next_222 : decode cX12_next 222 = .ok (.invokevirtual 320, 3) := by decide +kernel
theorem dX12_next_225 : decode cX12_next 225 = .ok (.goto 8, 3) := by decide +kernel
theorem dX12_next_228 : decode cX12_next 228 = .ok (.aload_n 0, 1) := by decide +kernel
theorem dX12_next_229 : decode cX12_next 229 = .ok (.iload_n 1, 1) := by decide +kernel
theorem dX12_next_230 : decode cX12_next 230 = .ok (.invokevirtual 323, 3) := by decide +kernel
theorem dX12_next_233 : decode cX12_next 233 = .ok (.return_, 1) := by decide +kernel
theorem dX12_readName_0 : decode cX12_readName 0 = .ok (.aload_n 0, 1) := by decide +kernel
theorem dX12_readName_1 : decode cX12_readName 1 = .ok (.lconst 0, 1) := by decide +kernel
theorem dX12_readName_2 : decode cX12_readName 2 = .ok (.putfield 327, 3) := by decide +kernel
theorem dX12_readName_5 : decode cX12_readName 5 = .ok (.aload_n 0, 1) := by decide +kernel
theorem dX12_readName_6 : decode cX12_readName 6 = .ok (.aload_n 0, 1) := by decide +kernel
theorem dX12_readName_7 : decode cX12_readName 7 = .ok (.getfield 297, 3) := by decide +kernel
theorem dX12_readName_10 : decode cX12_readName 10 = .ok (.invokevirtual 300, 3) := by decide +kernel
theorem dX12_readName_13 : decode cX12_readName 13 = .ok (.invokestatic 317, 3) := by decide +kernel
theorem dX12_readName_16 : decode cX12_readName 16 = .ok (.ifCond .ne 17, 3) := by decide +kernel
theorem dX12_readName_19 : decode cX12_readName 19 = .ok (.aload_n 0, 1) := by decide +kernel
theorem dX12_readName_20 : decode cX12_readName 20 = .ok (.aload_n 0, 1) := by decide +kernel
theorem dX12_readName_21 : decode cX12_readName 21 = .ok (.getfield 297, 3) := by decide +kernel
theorem dX12_readName_24 : decode cX12_readName 24 = .ok (.invokevirtual 300, 3) := by decide +kernel
theorem dX12_readName_27 : decode cX12_readName 27 = .ok (.invokestatic 310, 3) := by decide +kernel
theorem dX12_readName_30 : decode cX12_readName 30 = .ok (.ifCond .eq 37, 3) := by decide +kernel
theorem dX12_readName_33 : decode cX12_readName 33 = .ok (.aload_n 0, 1) := by decide +kernel
theorem dX12_readName_34 : decode cX12_readName 34 = .ok (.aload_n 0, 1) := by decide +kernel
theorem dX12_readName_35 : decode cX12_readName 35 = .ok (.getfield 327, 3) := by decide +kernel
theorem dX12_readName_38 : decode cX12_readName 38 = .ok (.bipush 8, 2) := by decide +kernel
theorem dX12_readName_40 : decode cX12_readName 40 = .ok (.lshl, 1) := by decide +kernel
theorem dX12_readName_41 : decode cX12_readName 41 = .ok (.aload_n 0, 1) := by decide +kernel
theorem dX12_readName_42 : decode cX12_readName 42 = .ok (.aload_n 0, 1) := by decide +kernel
theorem dX12_readName_43 : decode cX12_readName 43 = .ok (.getfield 297, 3) := by decide +kernel
theorem dX12_readName_46 : decode cX12_readName 46 = .ok (.invokevirtual 300, 3) := by decide +kernel
theorem dX12_readName_49 : decode cX12_readName 49 = .ok (.i2l, 1) := by decide +kernel
theorem dX12_readName_50 : decode cX12_readName 50 = .ok (.lor, 1) := by decide +kernel
theorem dX12_readName_51 : decode cX12_readName 51 = .ok (.putfield 327, 3) := by decide +kernel
theorem dX12_readName_54 : decode cX12_readName 54 = .ok (.aload_n 0, 1) := by decide +kernel
theorem dX12_readName_55 : decode cX12_readName 55 = .ok (.dup, 1) := by decide +kernel
theorem dX12_readName_56 : decode cX12_readName 56 = .ok (.getfield 297, 3) := by decide +kernel
theorem dX12_readName_59 : decode cX12_readName 59 = .ok (.iconst 1, 1) := by decide +kernel
theorem dX12_readName_60 : decode cX12_readName 60 = .ok (.iadd, 1) := by decide +kernel
theorem dX12_readName_61 : decode cX12_readName 61 = .ok (.putfield 297, 3) := by decide +kernel
theorem dX12_readName_64 : decode cX12_readName 64 = .ok (.goto (-59), 3) := by decide +kernel
theorem dX12_readName_67 : decode cX12_readName 67 = .ok (.aload_n 0, 1) := by decide +kernel
theorem dX12_readName_68 : decode cX12_readName 68 = .ok (.getfield 297, 3) := by decide +kernel
theorem dX12_readName_71 : decode cX12_readName 71 = .ok (.aload_n 0, 1) := by decide +kernel
theorem dX12_readName_72 : decode cX12_readName 72 = .ok (.getfield 304, 3) := by decide +kernel
theorem dX12_readName_75 : decode cX12_readName 75 = .ok (.isub, 1) := by decide +kernel
theorem dX12_readName_76 : decode cX12_readName 76 = .ok (.istore_n 1, 1) := by decide +kernel
theorem dX12_readName_77 : decode cX12_readName 77 = .ok (.iload_n 1, 1) := by decide +kernel
theorem dX12_readName_78 : decode cX12_readName 78 = .ok (.bipush 8, 2) := by decide +kernel
theorem dX12_readName_80 : decode cX12_readName 80 = .ok (.if_icmp .le 10, 3) := by decide +kernel
end
section
theorem dX12_readName_83 : decode cX12_readName 83 = .ok (.aload_n 0, 1) := by decide +kernel
theorem dX12_readName_84 : decode cX12_readName 84 = .ok (.bipush 6, 2) := by decide +kernel
theorem dX12_readName_86 : decode cX12_readName 86 = .ok (.putfield 307, 3) := by decide +kernel
theorem dX12_readName_89 : decode cX12_readName 89 = .ok (.return_, 1) := by decide +kernel
theorem dX12_readName_90 : decode cX12_readName 90 = .ok (.aload_n 0, 1) := by decide +kernel
theorem dX12_readName_91 : decode cX12_readName 91 = .ok (.aload_n 0, 1) := by decide +kernel
theorem dX12_readName_92 : decode cX12_readName 92 = .ok (.getfield 304, 3) := by decide +kernel
theorem dX12_readName_95 : decode cX12_readName 95 = .ok (.invokevirtual 300, 3) := by decide +kernel
theorem dX12_readName_98 : decode cX12_readName 98 = .ok (.istore_n 2, 1) := by decide +kernel
theorem dX12_readName_99 : decode cX12_readName 99 = .ok (.aload_n 0, 1) := by decide +kernel
theorem dX12_readName_100 : decode cX12_readName 100 = .ok (.aload_n 0, 1) := by decide +kernel
theorem dX12_readName_101 : decode cX12_readName 101 = .ok (.getfield 304, 3) := by decide +kernel
theorem dX12_readName_104 : decode cX12_readName 104 = .ok (.iconst 1, 1) := by decide +kernel
theorem dX12_readName_105 : decode cX12_readName 105 = .ok (.iadd, 1) := by decide +kernel
theorem dX12_readName_106 : decode cX12_readName 106 = .ok (.invokevirtual 300, 3) := by decide +kernel
theorem dX12_readName_109 : decode cX12_readName 109 = .ok (.bipush 48, 2) := by decide +kernel
theorem dX12_readName_111 : decode cX12_readName 111 = .ok (.isub, 1) := by decide +kernel
theorem dX12_readName_112 : decode cX12_readName 112 = .ok (.istore_n 3, 1) := by decide +kernel
theorem dX12_readName_113 : decode cX12_readName 113 = .ok (.aload_n 0, 1) := by decide +kernel
theorem dX12_readName_114 : decode cX12_readName 114 = .ok (.iconst 2, 1) := by decide +kernel
theorem dX12_readName_115 : decode cX12_readName 115 = .ok (.putfield 307, 3) := by decide +kernel
theorem dX12_readName_118 : decode cX12_readName 118 = .ok (.iload_n 1, 1) := by decide +kernel
theorem dX12_readName_119 : decode cX12_readName 119 = .ok (.iconst 2, 1) := by decide +kernel
theorem dX12_readName_120 : decode cX12_readName 120 = .ok (.if_icmp .ne 48, 3) := by decide +kernel
theorem dX12_readName_123 : decode cX12_readName 123 = .ok (.iload_n 2, 1) := by decide +kernel
theorem dX12_readName_124 : decode cX12_readName 124 = .ok (.bipush 109, 2) := by decide +kernel
theorem dX12_readName_126 : decode cX12_readName 126 = .ok (.if_icmp .eq 9, 3) := by decide +kernel
theorem dX12_readName_129 : decode cX12_readName 129 = .ok (.iload_n 2, 1) := by decide +kernel
theorem dX12_readName_130 : decode cX12_readName 130 = .ok (.bipush 114, 2) := by decide +kernel
theorem dX12_readName_132 : decode cX12_readName 132 = .ok (.if_icmp .ne 36, 3) := by decide +kernel
theorem dX12_readName_135 : decode cX12_readName 135 = .ok (.iload_n 3, 1) := by decide +kernel
theorem dX12_readName_136 : decode cX12_readName 136 = .ok (.iconst 0, 1) := by decide +kernel
theorem dX12_readName_137 : decode cX12_readName 137 = .ok (.bipush 7, 2) := by decide +kernel
theorem dX12_readName_139 : decode cX12_readName 139 = .ok (.invokestatic 279, 3) := by decide +kernel
theorem dX12_readName_142 : decode cX12_readName 142 = .ok (.ifCond .eq 26, 3) := by decide +kernel
theorem dX12_readName_145 : decode cX12_readName 145 = .ok (.aload_n 0, 1) := by decide +kernel
theorem dX12_readName_146 : decode cX12_readName 146 = .ok (.iload_n 2, 1) := by decide +kernel
theorem dX12_readName_147 : decode cX12_readName 147 = .ok (.bipush 109, 2) := by decide +kernel
theorem dX12_readName_149 : decode cX12_readName 149 = .ok (.if_icmp .ne 7, 3) := by decide +kernel
theorem dX12_readName_152 : decode cX12_readName 152 = .ok (.iconst 3, 1) := by decide +kernel
theorem dX12_readName_153 : decode cX12_readName 153 = .ok (.goto 4, 3) := by decide +kernel
theorem dX12_readName_156 : decode cX12_readName 156 = .ok (.iconst 4, 1) := by decide +kernel
theorem dX12_readName_157 : decode cX12_readName 157 = .ok (.putfield 307, 3) := by decide +kernel
theorem dX12_readName_160 : decode cX12_readName 160 = .ok (.aload_n 0, 1) := by decide +kernel
theorem dX12_readName_161 : decode cX12_readName 161 = .ok (.iload_n 3, 1) := by decide +kernel
theorem dX12_readName_162 : decode cX12_readName 162 = .ok (.putfield 314, 3) := by decide +kernel
theorem dX12_readName_165 : decode cX12_readName 165 = .ok (.goto 140, 3) := by decide +kernel
theorem dX12_readName_168 : decode cX12_readName 168 = .ok (.iload_n 2, 1) := by decide +kernel
theorem dX12_readName_169 : decode cX12_readName 169 = .ok (.bipush 101, 2) := by decide +kernel
theorem dX12_readName_171 : decode cX12_readName 171 = .ok (.if_icmp .ne 86, 3) := by decide +kernel
theorem dX12_readName_174 : decode cX12_readName 174 = .ok (.iload_n 1, 1) := by decide +kernel
theorem dX12_readName_175 : decode cX12_readName 175 = .ok (.iconst 2, 1) := by decide +kernel
theorem dX12_readName_176 : decode cX12_readName 176 = .ok (.if_icmp .ne 13, 3) := by decide +kernel
theorem dX12_readName_179 : decode cX12_readName 179 = .ok (.iload_n 3, 1) := by decide +kernel
theorem dX12_readName_180 : decode cX12_readName 180 = .ok (.iconst 0, 1) := by decide +kernel
theorem dX12_readName_181 : decode cX12_readName 181 = .ok (.bipush 9, 2) := by decide +kernel
theorem dX12_readName_183 : decode cX12_readName 183 = .ok (.invokestatic 279, 3) := by decide +kernel
theorem dX12_readName_186 : decode cX12_readName 186 = .ok (.ifCond .ne 34, 3) := by decide +kernel
theorem dX12_readName_189 : decode cX12_readName 189 = .ok (.iload_n 1, 1) := by decide +kernel
theorem dX12_readName_190 : decode cX12_readName 190 = .ok (.iconst 3, 1) := by decide +kernel
theorem dX12_readName_191 : decode cX12_readName 191 = .ok (.if_icmp .ne 66, 3) := by decide +kernel
theorem dX12_readName_194 : decode cX12_readName 194 = .ok (.iload_n 3, 1) := by decide +kernel
theorem dX12_readName_195 : decode cX12_readName 195 = .ok (.iconst 1, 1) := by decide +kernel
theorem dX12_readName_196 : decode cX12_readName 196 = .ok (.if_icmp .ne 61, 3) := by decide +kernel
theorem dX12_readName_199 : decode cX12_readName 199 = .ok (.aload_n 0, 1) := by decide +kernel
theorem dX12_readName_200 : decode cX12_readName 200 = .ok (.aload_n 0, 1) := by decide +kernel
theorem dX12_readName_201 : decode cX12_readName 201 = .ok (.getfield 304, 3) := by decide +kernel
theorem dX12_readName_204 : decode cX12_readName 204 = .ok (.iconst 2, 1) := by decide +kernel
theorem dX12_readName_205 : decode cX12_readName 205 = .ok (.iadd, 1) := by decide +kernel
theorem dX12_readName_206 : decode cX12_readName 206 = .ok (.invokevirtual 300, 3) := by decide +kernel
theorem dX12_readName_209 : decode cX12_readName 209 = .ok (.bipush 48, 2) := by decide +kernel
theorem dX12_readName_211 : decode cX12_readName 211 = .ok (.isub, 1) := by decide +kernel
theorem dX12_readName_212 : decode cX12_readName 212 = .ok (.iconst 0, 1) := by decide +kernel
theorem dX12_readName_213 : decode cX12_readName 213 = .ok (.iconst 1, 1) := by decide +kernel
theorem dX12_readName_214 : decode cX12_readName 214 = .ok (.invokestatic 279, 3) := by decide +kernel
theorem dX12_readName_217 : decode cX12_readName 217 = .ok (.ifCond .eq 40, 3) := by decide +kernel
theorem dX12_readName_220 : decode cX12_readName 220 = .ok (.aload_n 0, 1) := by decide +kernel
theorem dX12_readName_221 : decode cX12_readName 221 = .ok (.iconst 5, 1) := by decide +kernel
theorem dX12_readName_222 : decode cX12_readName 222 = .ok (.putfield 307, 3) := by decide +kernel
theorem dX12_readName_225 : decode cX12_readName 225 = .ok (.aload_n 0, 1) := by decide +kernel
theorem dX12_readName_226 : decode cX12_readName 226 = .ok (.iload_n 1, 1) := by decide +kernel
theorem dX12_readName_227 : decode cX12_readName 227 = .ok (.iconst 2, 1) := by decide +kernel
theorem dX12_readName_228 : decode cX12_readName 228 = .ok (.if_icmp .ne 7, 3) := by decide +kernel
theorem dX12_readName_231 : decode cX12_readName 231 = .ok (.iload_n 3, 1) := by decide +kernel
theorem dX12_readName_232 : decode cX12_readName 232 = .ok (.goto 19, 3) := by decide +kernel
theorem dX12_readName_235 : decode cX12_readName 235 = .ok (.bipush 10, 2) := by decide +kernel
theorem dX12_readName_237 : decode cX12_readName 237 = .ok (.aload_n 0, 1) := by decide +kernel
theorem dX12_readName_238 : decode cX12_readName 238 = .ok (.aload_n 0, 1) := by decide +kernel
theorem dX12_readName_239 : decode cX12_readName 239 = .ok (.getfield 304, 3) := by decide +kernel
theorem dX12_readName_242 : decode cX12_readName 242 = .ok (.iconst 2, 1) := by decide +kernel
theorem dX12_readName_243 : decode cX12_readName 243 = .ok (.iadd, 1) := by decide +kernel
theorem dX12_readName_244 : decode cX12_readName 244 = .ok (.invokevirtual 300, 3) := by decide +kernel
theorem dX12_readName_247 : decode cX12_readName 247 = .ok (.iadd, 1) := by decide +kernel
theorem dX12_readName_248 : decode cX12_readName 248 = .ok (.bipush 48, 2) := by decide +kernel
theorem dX12_readName_250 : decode cX12_readName 250 = .ok (.isub, 1) := by decide +kernel
theorem dX12_readName_251 : decode cX12_readName 251 = .ok (.putfield 314, 3) := by decide +kernel
theorem dX12_readName_254 : decode cX12_readName 254 = .ok (.goto 51, 3) := by decide +kernel
theorem dX12_readName_257 : decode cX12_readName 257 = .ok (.iconst 0, 1) := by decide +kernel
theorem dX12_readName_258 : decode cX12_readName 258 = .ok (.istore 4, 2) := by decide +kernel
theorem dX12_readName_260 : decode cX12_readName 260 = .ok (.iload 4, 2) := by decide +kernel
theorem dX12_readName_262 : decode cX12_readName 262 = .ok (.bipush 25, 2) := by decide +kernel
theorem dX12_readName_264 : decode cX12_readName 264 = .ok (.if_icmp .ge 41, 3) := by decide +kernel
theorem dX12_readName_267 : decode cX12_readName 267 = .ok (.aload_n 0, 1) := by decide +kernel
theorem dX12_readName_268 : decode cX12_readName 268 = .ok (.aload_n 0, 1) := by decide +kernel
theorem dX12_readName_269 : decode cX12_readName 269 = .ok (.getfield 80, 3) := by decide +kernel
theorem dX12_readName_272 : decode cX12_readName 272 = .ok (.iload 4, 2) := by decide +kernel
theorem dX12_readName_274 : decode cX12_readName 274 = .ok (.laload, 1) := by decide +kernel
theorem dX12_readName_275 : decode cX12_readName 275 = .ok (.aload_n 0, 1) := by decide +kernel
theorem dX12_readName_276 : decode cX12_readName 276 = .ok (.getfield 327, 3) := by decide +kernel
theorem dX12_readName_279 : decode cX12_readName 279 = .ok (.lcmp, 1) := by decide +kernel
theorem dX12_readName_280 : decode cX12_readName 280 = .ok (.ifCond .ne 12, 3) := by decide +kernel
theorem dX12_readName_283 : decode cX12_readName 283 = .ok (.sipush 410, 3) := by decide +kernel
theorem dX12_readName_286 : decode cX12_readName 286 = .ok (.iload 4, 2) := by decide +kernel
theorem dX12_readName_288 : decode cX12_readName 288 = .ok (.iadd, 1) := by decide +kernel
theorem dX12_readName_289 : decode cX12_readName 289 = .ok (.goto 7, 3) := by decide +kernel
theorem dX12_readName_292 : decode cX12_readName 292 = .ok (.aload_n 0, 1) := by decide +kernel
theorem dX12_readName_293 : decode cX12_readName 293 = .ok (.getfield 307, 3) := by decide +kernel
theorem dX12_readName_296 : decode cX12_readName 296 = .ok (.putfield 307, 3) := by decide +kernel
theorem dX12_readName_299 : decode cX12_readName 299 = .ok (.iinc 4 1, 3) := by decide +kernel
theorem dX12_readName_302 : decode cX12_readName 302 = .ok (.goto (-42), 3) := by decide +kernel
theorem dX12_readName_305 : decode cX12_readName 305 = .ok (.return_, 1) := by decide +kernel
theorem dX12_readSign_0 : decode cX12_readSign 0 = .ok (.aload_n 0, 1) := by decide +kernel
theorem dX12_readSign_1 : decode cX12_readSign 1 = .ok (.dup, 1) := by decide +kernel
theorem dX12_readSign_2 : decode cX12_readSign 2 = .ok (.getfield 297, 3) := by decide +kernel
theorem dX12_readSign_5 : decode cX12_readSign 5 = .ok (.iconst 1, 1) := by decide +kernel
theorem dX12_readSign_6 : decode cX12_readSign 6 = .ok (.iadd, 1) := by decide +kernel
theorem dX12_readSign_7 : decode cX12_readSign 7 = .ok (.putfield 297, 3) := by decide +kernel
theorem dX12_readSign_10 : decode cX12_readSign 10 = .ok (.aload_n 0, 1) := by decide +kernel
theorem dX12_readSign_11 : decode cX12_readSign 11 = .ok (.aload_n 0, 1) := by decide +kernel
theorem dX12_readSign_12 : decode cX12_readSign 12 = .ok (.getfield 297, 3) := by decide +kernel
theorem dX12_readSign_15 : decode cX12_readSign 15 = .ok (.invokevirtual 300, 3) := by decide +kernel
theorem dX12_readSign_18 : decode cX12_readSign 18 = .ok (.istore_n 2, 1) := by decide +kernel
theorem dX12_readSign_19 : decode cX12_readSign 19 = .ok (.iload_n 1, 1) := by decide +kernel
theorem dX12_readSign_20 : decode cX12_readSign 20 = .ok (.bipush 60, 2) := by decide +kernel
theorem dX12_readSign_22 : decode cX12_readSign 22 = .ok (.if_icmp .ne 15, 3) := by decide +kernel
theorem dX12_readSign_25 : decode cX12_readSign 25 = .ok (.iload_n 2, 1) := by decide +kernel
theorem dX12_readSign_26 : decode cX12_readSign 26 = .ok (.bipush 61, 2) := by decide +kernel
theorem dX12_readSign_28 : decode cX12_readSign 28 = .ok (.if_icmp .ne 9, 3) := by decide +kernel
theorem dX12_readSign_31 : decode cX12_readSign 31 = .ok (.sipush 300, 3) := by decide +kernel
theorem dX12_readSign_34 : decode cX12_readSign 34 = .ok (.goto 130, 3) := by decide +kernel
theorem dX12_readSign_37 : decode cX12_readSign 37 = .ok (.iload_n 1, 1) := by decide +kernel
theorem dX12_readSign_38 : decode cX12_readSign 38 = .ok (.bipush 62, 2) := by decide +kernel
theorem dX12_readSign_40 : decode cX12_readSign 40 = .ok (.if_icmp .ne 15, 3) := by decide +kernel
theorem dX12_readSign_43 : decode cX12_readSign 43 = .ok (.iload_n 2, 1) := by decide +kernel
theorem dX12_readSign_44 : decode cX12_readSign 44 = .ok (.bipush 61, 2) := by decide +kernel
theorem dX12_readSign_46 : decode cX12_readSign 46 = .ok (.if_icmp .ne 9, 3) := by decide +kernel
theorem dX12_readSign_49 : decode cX12_readSign 49 = .ok (.sipush 301, 3) := by decide +kernel
theorem dX12_readSign_52 : decode cX12_readSign 52 = .ok (.goto 112, 3) := by decide +kernel
theorem dX12_readSign_55 : decode cX12_readSign 55 = .ok (.iload_n 1, 1) := by decide +kernel
theorem dX12_readSign_56 : decode cX12_readSign 56 = .ok (.bipush 61, 2) := by decide +kernel
theorem dX12_readSign_58 : decode cX12_readSign 58 = .ok (.if_icmp .ne 15, 3) := by decide +kernel
theorem dX12_readSign_61 : decode cX12_readSign 61 = .ok (.iload_n 2, 1) := by decide +kernel
theorem dX12_readSign_62 : decode cX12_readSign 62 = .ok (.bipush 61, 2) := by decide +kernel
theorem dX12_readSign_64 : decode cX12_readSign 64 = .ok (.if_icmp .ne 9, 3) := by decide +kernel
theorem dX12_readSign_67 : decode cX12_readSign 67 = .ok (.sipush 302, 3) := by decide +kernel
theorem dX12_readSign_70 : decode cX12_readSign 70 = .ok (.goto 94, 3) := by decide +kernel
theorem dX12_readSign_73 : decode cX12_readSign 73 = .ok (.iload_n 1, 1) := by decide +kernel
theorem dX12_readSign_74 : decode cX12_readSign 74 = .ok (.bipush 33, 2) := by decide +kernel
theorem dX12_readSign_76 : decode cX12_readSign 76 = .ok (.if_icmp .ne 15, 3) := by decide +kernel
theorem dX12_readSign_79 : decode cX12_readSign 79 = .ok (.iload_n 2, 1) := by decide +kernel
theorem dX12_readSign_80 : decode cX12_readSign 80 = .ok (.bipush 61, 2) := by decide +kernel
theorem dX12_readSign_82 : decode cX12_readSign 82 = .ok (.if_icmp .ne 9, 3) := by decide +kernel
theorem dX12_readSign_85 : decode cX12_readSign 85 = .ok (.sipush 303, 3) := by decide +kernel
theorem dX12_readSign_88 : decode cX12_readSign 88 = .ok (.goto 76, 3) := by decide +kernel
theorem dX12_readSign_91 : decode cX12_readSign 91 = .ok (.iload_n 1, 1) := by decide +kernel
theorem dX12_readSign_92 : decode cX12_readSign 92 = .ok (.bipush 38, 2) := by decide +kernel
theorem dX12_readSign_94 : decode cX12_readSign 94 = .ok (.if_icmp .ne 15, 3) := by decide +kernel
theorem dX12_readSign_97 : decode cX12_readSign 97 = .ok (.iload_n 2, 1) := by decide +kernel
theorem dX12_readSign_98 : decode cX12_readSign 98 = .ok (.bipush 38, 2) := by decide +kernel
theorem dX12_readSign_100 : decode cX12_readSign 100 = .ok (.if_icmp .ne 9, 3) := by decide +kernel
theorem dX12_readSign_103 : decode cX12_readSign 103 = .ok (.sipush 304, 3) := by decide +kernel
theorem dX12_readSign_106 : decode cX12_readSign 106 = .ok (.goto 58, 3) := by decide +kernel
theorem dX12_readSign_109 : decode cX12_readSign 109 = .ok (.iload_n 1, 1) := by decide +kernel
theorem dX12_readSign_110 : decode cX12_readSign 110 = .ok (.bipush 124, 2) := by decide +kernel
theorem dX12_readSign_112 : decode cX12_readSign 112 = .ok (.if_icmp .ne 15, 3) := by decide +kernel
theorem dX12_readSign_115 : decode cX12_readSign 115 = .ok (.iload_n 2, 1) := by decide +kernel
theorem dX12_readSign_116 : decode cX12_readSign 116 = .ok (.bipush 124, 2) := by decide +kernel
theorem dX12_readSign_118 : decode cX12_readSign 118 = .ok (.if_icmp .ne 9, 3) := by decide +kernel
theorem dX12_readSign_121 : decode cX12_readSign 121 = .ok (.sipush 305, 3) := by decide +kernel
theorem dX12_readSign_124 : decode cX12_readSign 124 = .ok (.goto 40, 3) := by decide +kernel
theorem dX12_readSign_127 : decode cX12_readSign 127 = .ok (.iload_n 1, 1) := by decide +kernel
theorem dX12_readSign_128 : decode cX12_readSign 128 = .ok (.bipush 45, 2) := by decide +kernel
theorem dX12_readSign_130 : decode cX12_readSign 130 = .ok (.if_icmp .ne 15, 3) := by decide +kernel
theorem dX12_readSign_133 : decode cX12_readSign 133 = .ok (.iload_n 2, 1) := by decide +kernel
theorem dX12_readSign_134 : decode cX12_readSign 134 = .ok (.bipush 62, 2) := by decide +kernel
theorem dX12_readSign_136 : decode cX12_readSign 136 = .ok (.if_icmp .ne 9, 3) := by decide +kernel
theorem dX12_readSign_139 : decode cX12_readSign 139 = .ok (.sipush 306, 3) := by decide +kernel
theorem dX12_readSign_142 : decode cX12_readSign 142 = .ok (.goto 22, 3) := by decide +kernel
theorem dX12_readSign_145 : decode cX12_readSign 145 = .ok (.iload_n 1, 1) := by decide +kernel
theorem dX12_readSign_146 : decode cX12_readSign 146 = .ok (.bipush 43, 2) := by decide +kernel
theorem dX12_readSign_148 : decode cX12_readSign 148 = .ok (.if_icmp .ne 15, 3) := by decide +kernel
theorem dX12_readSign_151 : decode cX12_readSign 151 = .ok (.iload_n 2, 1) := by decide +kernel
theorem dX12_readSign_152 : decode cX12_readSign 152 = .ok (.bipush 43, 2) := by decide +kernel
theorem dX12_readSign_154 : decode cX12_readSign 154 = .ok (.if_icmp .ne 9, 3) := by decide +kernel
theorem dX12_readSign_157 : decode cX12_readSign 157 = .ok (.sipush 307, 3) := by decide +kernel
theorem dX12_readSign_160 : decode cX12_readSign 160 = .ok (.goto 4, 3) := by decide +kernel
theorem dX12_readSign_163 : decode cX12_readSign 163 = .ok (.iconst 0, 1) := by decide +kernel
theorem dX12_readSign_164 : decode cX12_readSign 164 = .ok (.istore_n 3, 1) := by decide +kernel
theorem dX12_readSign_165 : decode cX12_readSign 165 = .ok (.iload_n 3, 1) := by decide +kernel
theorem dX12_readSign_166 : decode cX12_readSign 166 = .ok (.ifCond .le 19, 3) := by decide +kernel
theorem dX12_readSign_169 : decode cX12_readSign 169 = .ok (.aload_n 0, 1) := by decide +kernel
theorem dX12_readSign_170 : decode cX12_readSign 170 = .ok (.dup, 1) := by decide +kernel
theorem dX12_readSign_171 : decode cX12_readSign 171 = .ok (.getfield 297, 3) := by decide +kernel
theorem dX12_readSign_174 : decode cX12_readSign 174 = .ok (.iconst 1, 1) := by decide +kernel
theorem dX12_readSign_175 : decode cX12_readSign 175 = .ok (.iadd, 1) := by decide +kernel
theorem dX12_readSign_176 : decode cX12_readSign 176 = .ok (.putfield 297, 3) := by decide +kernel
theorem dX12_readSign_179 : decode cX12_readSign 179 = .ok (.aload_n 0, 1) := by decide +kernel
theorem dX12_readSign_180 : decode cX12_readSign 180 = .ok (.iload_n 3, 1) := by decide +kernel
theorem dX12_readSign_181 : decode cX12_readSign 181 = .ok (.putfield 307, 3) := by decide +kernel
theorem dX12_readSign_184 : decode cX12_readSign 184 = .ok (.return_, 1) := by decide +kernel
theorem dX12_readSign_185 : decode cX12_readSign 185 = .ok (.iload_n 1, 1) := by decide +kernel
theorem dX12_readSign_186 : decode cX12_readSign 186 = .ok (.bipush 123, 2) := by decide +kernel
theorem dX12_readSign_188 : decode cX12_readSign 188 = .ok (.if_icmp .eq 111, 3) := by decide +kernel
theorem dX12_readSign_191 : decode cX12_readSign 191 = .ok (.iload_n 1, 1) := by decide +kernel
theorem dX12_readSign_192 : decode cX12_readSign 192 = .ok (.bipush 125, 2) := by decide +kernel
theorem dX12_readSign_194 : decode cX12_readSign 194 = .ok (.if_icmp .eq 105, 3) := by decide +kernel
theorem dX12_readSign_197 : decode cX12_readSign 197 = .ok (.iload_n 1, 1) := by decide +kernel
theorem dX12_readSign_198 : decode cX12_readSign 198 = .ok (.bipush 40, 2) := by decide +kernel
theorem dX12_readSign_200 : decode cX12_readSign 200 = .ok (.if_icmp .eq 99, 3) := by decide +kernel
theorem dX12_readSign_203 : decode cX12_readSign 203 = .ok (.iload_n 1, 1) := by decide +kernel
theorem dX12_readSign_204 : decode cX12_readSign 204 = .ok (.bipush 41, 2) := by decide +kernel
theorem dX12_readSign_206 : decode cX12_readSign 206 = .ok (.if_icmp .eq 93, 3) := by decide +kernel
theorem dX12_readSign_209 : decode cX12_readSign 209 = .ok (.iload_n 1, 1) := by decide +kernel
theorem dX12_readSign_210 : decode cX12_readSign 210 = .ok (.bipush 91, 2) := by decide +kernel
theorem dX12_readSign_212 : decode cX12_readSign 212 = .ok (.if_icmp .eq 87, 3) := by decide +kernel
theorem dX12_readSign_215 : decode cX12_readSign 215 = .ok (.iload_n 1, 1) := by decide +kernel
theorem dX12_readSign_216 : decode cX12_readSign 216 = .ok (.bipush 93, 2) := by decide +kernel
theorem dX12_readSign_218 : decode cX12_readSign 218 = .ok (.if_icmp .eq 81, 3) := by decide +kernel
theorem dX12_readSign_221 : decode cX12_readSign 221 = .ok (.iload_n 1, 1) := by decide +kernel
theorem dX12_readSign_222 : decode cX12_readSign 222 = .ok (.bipush 59, 2) := by decide +kernel
theorem dX12_readSign_224 : decode cX12_readSign 224 = .ok (.if_icmp .eq 75, 3) := by decide +kernel
theorem dX12_readSign_227 : decode cX12_readSign 227 = .ok (.iload_n 1, 1) := by decide +kernel
theorem dX12_readSign_228 : decode cX12_readSign 228 = .ok (.bipush 58, 2) := by decide +kernel
theorem dX12_readSign_230 : decode cX12_readSign 230 = .ok (.if_icmp .eq 69, 3) := by decide +kernel
theorem dX12_readSign_233 : decode cX12_readSign 233 = .ok (.iload_n 1, 1) := by decide +kernel
theorem dX12_readSign_234 : decode cX12_readSign 234 = .ok (.bipush 44, 2) := by decide +kernel
theorem dX12_readSign_236 : decode cX12_readSign 236 = .ok (.if_icmp .eq 63, 3) := by decide +kernel
theorem dX12_readSign_239 : decode cX12_readSign 239 = .ok (.iload_n 1, 1) := by decide +kernel
theorem dX12_readSign_240 : decode cX12_readSign 240 = .ok (.bipush 61, 2) := by decide +kernel
theorem dX12_readSign_242 : decode cX12_readSign 242 = .ok (.if_icmp .eq 57, 3) := by decide +kernel
theorem dX12_readSign_245 : decode cX12_readSign 245 = .ok (.iload_n 1, 1) := by decide +kernel
theorem dX12_readSign_246 : decode cX12_readSign 246 = .ok (.bipush 43, 2) := by decide +kernel
theorem dX12_readSign_248 : decode cX12_readSign 248 = .ok (.if_icmp .eq 51, 3) := by decide +kernel
theorem dX12_readSign_251 : decode cX12_readSign 251 = .ok (.iload_n 1, 1) := by decide +kernel
theorem dX12_readSign_252 : decode cX12_readSign 252 = .ok (.bipush 45, 2) := by decide +kernel
theorem dX12_readSign_254 : decode cX12_readSign 254 = .ok (.if_icmp .eq 45, 3) := by decide +kernel
theorem dX12_readSign_257 : decode cX12_readSign 257 = .ok (.iload_n 1, 1) := by decide +kernel
theorem dX12_readSign_258 : decode cX12_readSign 258 = .ok (.bipush 42, 2) := by decide +kernel
theorem dX12_readSign_260 : decode cX12_readSign 260 = .ok (.if_icmp .eq 39, 3) := by decide +kernel
theorem dX12_readSign_263 : decode cX12_readSign 263 = .ok (.iload_n 1, 1) := by decide +kernel
theorem dX12_readSign_264 : decode cX12_readSign 264 = .ok (.bipush 47, 2) := by decide +kernel
theorem dX12_readSign_266 : decode cX12_readSign 266 = .ok (.if_icmp .eq 33, 3) := by decide +kernel
theorem dX12_readSign_269 : decode cX12_readSign 269 = .ok (.iload_n 1, 1) := by decide +kernel
theorem dX12_readSign_270 : decode cX12_readSign 270 = .ok (.bipush 37, 2) := by decide +kernel
theorem dX12_readSign_272 : decode cX12_readSign 272 = .ok (.if_icmp .eq 27, 3) := by decide +kernel
theorem dX12_readSign_275 : decode cX12_readSign 275 = .ok (.iload_n 1, 1) := by decide +kernel
theorem dX12_readSign_276 : decode cX12_readSign 276 = .ok (.bipush 60, 2) := by decide +kernel
theorem dX12_readSign_278 : decode cX12_readSign 278 = .ok (.if_icmp .eq 21, 3) := by decide +kernel
theorem dX12_readSign_281 : decode cX12_readSign 281 = .ok (.iload_n 1, 1) := by decide +kernel
theorem dX12_readSign_282 : decode cX12_readSign 282 = .ok (.bipush 62, 2) := by decide +kernel
theorem dX12_readSign_284 : decode cX12_readSign 284 = .ok (.if_icmp .eq 15, 3) := by decide +kernel
theorem dX12_readSign_287 : decode cX12_readSign 287 = .ok (.iload_n 1, 1) := by decide +kernel
theorem dX12_readSign_288 : decode cX12_readSign 288 = .ok (.bipush 33, 2) := by decide +kernel
theorem dX12_readSign_290 : decode cX12_readSign 290 = .ok (.if_icmp .eq 9, 3) := by decide +kernel
theorem dX12_readSign_293 : decode cX12_readSign 293 = .ok (.iload_n 1, 1) := by decide +kernel
theorem dX12_readSign_294 : decode cX12_readSign 294 = .ok (.bipush 124, 2) := by decide +kernel
theorem dX12_readSign_296 : decode cX12_readSign 296 = .ok (.if_icmp .ne 7, 3) := by decide +kernel
theorem dX12_readSign_299 : decode cX12_readSign 299 = .ok (.iconst 1, 1) := by decide +kernel
theorem dX12_readSign_300 : decode cX12_readSign 300 = .ok (.goto 4, 3) := by decide +kernel
theorem dX12_readSign_303 : decode cX12_readSign 303 = .ok (.iconst 0, 1) := by decide +kernel
theorem dX12_readSign_304 : decode cX12_readSign 304 = .ok (.istore 4, 2) := by decide +kernel
theorem dX12_readSign_306 : decode cX12_readSign 306 = .ok (.aload_n 0, 1) := by decide +kernel
theorem dX12_readSign_307 : decode cX12_readSign 307 = .ok (.iload 4, 2) := by decide +kernel
theorem dX12_readSign_309 : decode cX12_readSign 309 = .ok (.ifCond .eq 7, 3) := by decide +kernel
theorem dX12_readSign_312 : decode cX12_readSign 312 = .ok (.iload_n 1, 1) := by decide +kernel
theorem dX12_readSign_313 : decode cX12_readSign 313 = .ok (.goto 5, 3) := by decide +kernel
theorem dX12_readSign_316 : decode cX12_readSign 316 = .ok (.bipush 6, 2) := by decide +kernel
theorem dX12_readSign_318 : decode cX12_readSign 318 = .ok (.putfield 307, 3) := by decide +kernel
theorem dX12_readSign_321 : decode cX12_readSign 321 = .ok (.return_, 1) := by decide +kernel
theorem dX12_fail_0 : decode cX12_fail 0 = .ok (.aload_n 0, 1) := by decide +kernel
theorem dX12_fail_1 : decode cX12_fail 1 = .ok (.getfield 291, 3) := by decide +kernel
theorem dX12_fail_4 : decode cX12_fail 4 = .ok (.ifCond .ne 13, 3) := by decide +kernel
theorem dX12_fail_7 : decode cX12_fail 7 = .ok (.aload_n 0, 1) := by decide +kernel
theorem dX12_fail_8 : decode cX12_fail 8 = .ok (.iload_n 1, 1) := by decide +kernel
theorem dX12_fail_9 : decode cX12_fail 9 = .ok (.putfield 291, 3) := by decide +kernel
theorem dX12_fail_12 : decode cX12_fail 12 = .ok (.aload_n 0, 1) := by decide +kernel
theorem dX12_fail_13 : decode cX12_fail 13 = .ok (.iload_n 2, 1) := by decide +kernel
theorem dX12_fail_14 : decode cX12_fail 14 = .ok (.putfield 331, 3) := by decide +kernel
theorem dX12_fail_17 : decode cX12_fail 17 = .ok (.return_, 1) := by decide +kernel
theorem dX12_note_0 : decode cX12_note 0 = .ok (.aload_n 0, 1) := by decide +kernel
theorem dX12_note_1 : decode cX12_note 1 = .ok (.getfield 291, 3) := by decide +kernel
theorem dX12_note_4 : decode cX12_note 4 = .ok (.ifCond .ne 15, 3) := by decide +kernel
theorem dX12_note_7 : decode cX12_note 7 = .ok (.aload_n 0, 1) := by decide +kernel
theorem dX12_note_8 : decode cX12_note 8 = .ok (.getfield 334, 3) := by decide +kernel
theorem dX12_note_11 : decode cX12_note 11 = .ok (.ifCond .ge 8, 3) := by decide +kernel
theorem dX12_note_14 : decode cX12_note 14 = .ok (.aload_n 0, 1) := by decide +kernel
theorem dX12_note_15 : decode cX12_note 15 = .ok (.iload_n 1, 1) := by decide +kernel
theorem dX12_note_16 : decode cX12_note 16 = .ok (.putfield 334, 3) := by decide +kernel
theorem dX12_note_19 : decode cX12_note 19 = .ok (.return_, 1) := by decide +kernel
theorem dX12_can_0 : decode cX12_can 0 = .ok (.aload_n 0, 1) := by decide +kernel
theorem dX12_can_1 : decode cX12_can 1 = .ok (.getfield 291, 3) := by decide +kernel
theorem dX12_can_4 : decode cX12_can 4 = .ok (.ifCond .ne 38, 3) := by decide +kernel
theorem dX12_can_7 : decode cX12_can 7 = .ok (.iload_n 1, 1) := by decide +kernel
theorem dX12_can_8 : decode cX12_can 8 = .ok (.ifCond .eq 12, 3) := by decide +kernel
theorem dX12_can_11 : decode cX12_can 11 = .ok (.aload_n 0, 1) := by decide +kernel
theorem dX12_can_12 : decode cX12_can 12 = .ok (.getfield 307, 3) := by decide +kernel
theorem dX12_can_15 : decode cX12_can 15 = .ok (.bipush 6, 2) := by decide +kernel
theorem dX12_can_17 : decode cX12_can 17 = .ok (.if_icmp .ne 25, 3) := by decide +kernel
theorem dX12_can_20 : decode cX12_can 20 = .ok (.aload_n 0, 1) := by decide +kernel
theorem dX12_can_21 : decode cX12_can 21 = .ok (.aload_n 0, 1) := by decide +kernel
theorem dX12_can_22 : decode cX12_can 22 = .ok (.getfield 307, 3) := by decide +kernel
theorem dX12_can_25 : decode cX12_can 25 = .ok (.bipush 6, 2) := by decide +kernel
theorem dX12_can_27 : decode cX12_can 27 = .ok (.if_icmp .ne 7, 3) := by decide +kernel
theorem dX12_can_30 : decode cX12_can 30 = .ok (.iconst 1, 1) := by decide +kernel
theorem dX12_can_31 : decode cX12_can 31 = .ok (.goto 4, 3) := by decide +kernel
theorem dX12_can_34 : decode cX12_can 34 = .ok (.iconst 2, 1) := by decide +kernel
theorem dX12_can_35 : decode cX12_can 35 = .ok (.aload_n 0, 1) := by decide +kernel
theorem dX12_can_36 : decode cX12_can 36 = .ok (.getfield 304, 3) := by decide +kernel
theorem dX12_can_39 : decode cX12_can 39 = .ok (.invokevirtual 337, 3) := by decide +kernel
theorem dX12_can_42 : decode cX12_can 42 = .ok (.aload_n 0, 1) := by decide +kernel
theorem dX12_can_43 : decode cX12_can 43 = .ok (.getfield 291, 3) := by decide +kernel
theorem dX12_can_46 : decode cX12_can 46 = .ok (.ifCond .ne 7, 3) := by decide +kernel
theorem dX12_can_49 : decode cX12_can 49 = .ok (.iconst 1, 1) := by decide +kernel
theorem dX12_can_50 : decode cX12_can 50 = .ok (.goto 4, 3) := by decide +kernel
theorem dX12_can_53 : decode cX12_can 53 = .ok (.iconst 0, 1) := by decide +kernel
theorem dX12_can_54 : decode cX12_can 54 = .ok (.ireturn, 1) := by decide +kernel
theorem dX12_need_0 : decode cX12_need 0 = .ok (.aload_n 0, 1) := by decide +kernel
theorem dX12_need_1 : decode cX12_need 1 = .ok (.getfield 291, 3) := by decide +kernel
theorem dX12_need_4 : decode cX12_need 4 = .ok (.ifCond .ne 27, 3) := by decide +kernel
theorem dX12_need_7 : decode cX12_need 7 = .ok (.aload_n 0, 1) := by decide +kernel
theorem dX12_need_8 : decode cX12_need 8 = .ok (.aload_n 0, 1) := by decide +kernel
theorem dX12_need_9 : decode cX12_need 9 = .ok (.getfield 307, 3) := by decide +kernel
theorem dX12_need_12 : decode cX12_need 12 = .ok (.iload_n 1, 1) := by decide +kernel
theorem dX12_need_13 : decode cX12_need 13 = .ok (.if_icmp .ne 7, 3) := by decide +kernel
theorem dX12_need_16 : decode cX12_need 16 = .ok (.iconst 1, 1) := by decide +kernel
theorem dX12_need_17 : decode cX12_need 17 = .ok (.goto 4, 3) := by decide +kernel
theorem dX12_need_20 : decode cX12_need 20 = .ok (.iconst 0, 1) := by decide +kernel
theorem dX12_need_21 : decode cX12_need 21 = .ok (.invokevirtual 341, 3) := by decide +kernel
theorem dX12_need_24 : decode cX12_need 24 = .ok (.ifCond .eq 7, 3) := by decide +kernel
theorem dX12_need_27 : decode cX12_need 27 = .ok (.aload_n 0, 1) := by decide +kernel
theorem dX12_need_28 : decode cX12_need 28 = .ok (.invokevirtual 345, 3) := by decide +kernel
theorem dX12_need_31 : decode cX12_need 31 = .ok (.aload_n 0, 1) := by decide +kernel
theorem dX12_need_32 : decode cX12_need 32 = .ok (.getfield 291, 3) := by decide +kernel
theorem dX12_need_35 : decode cX12_need 35 = .ok (.ifCond .ne 7, 3) := by decide +kernel
theorem dX12_need_38 : decode cX12_need 38 = .ok (.iconst 1, 1) := by decide +kernel
theorem dX12_need_39 : decode cX12_need 39 = .ok (.goto 4, 3) := by decide +kernel
theorem dX12_need_42 : decode cX12_need 42 = .ok (.iconst 0, 1) := by decide +kernel
theorem dX12_need_43 : decode cX12_need 43 = .ok (.ireturn, 1) := by decide +kernel
theorem dX12_opens_0 : decode cX12_opens 0 = .ok (.aload_n 0, 1) := by decide +kernel
theorem dX12_opens_1 : decode cX12_opens 1 = .ok (.dup, 1) := by decide +kernel
theorem dX12_opens_2 : decode cX12_opens 2 = .ok (.getfield 348, 3) := by decide +kernel
theorem dX12_opens_5 : decode cX12_opens 5 = .ok (.iconst 1, 1) := by decide +kernel
theorem dX12_opens_6 : decode cX12_opens 6 = .ok (.iadd, 1) := by decide +kernel
theorem dX12_opens_7 : decode cX12_opens 7 = .ok (.putfield 348, 3) := by decide +kernel
theorem dX12_opens_10 : decode cX12_opens 10 = .ok (.aload_n 0, 1) := by decide +kernel
theorem dX12_opens_11 : decode cX12_opens 11 = .ok (.getfield 348, 3) := by decide +kernel
theorem dX12_opens_14 : decode cX12_opens 14 = .ok (.bipush 20, 2) := by decide +kernel
theorem dX12_opens_16 : decode cX12_opens 16 = .ok (.if_icmp .le 13, 3) := by decide +kernel
theorem dX12_opens_19 : decode cX12_opens 19 = .ok (.aload_n 0, 1) := by decide +kernel
theorem dX12_opens_20 : decode cX12_opens 20 = .ok (.bipush 6, 2) := by decide +kernel
theorem dX12_opens_22 : decode cX12_opens 22 = .ok (.aload_n 0, 1) := by decide +kernel
theorem dX12_opens_23 : decode cX12_opens 23 = .ok (.getfield 304, 3) := by decide +kernel
theorem dX12_opens_26 : decode cX12_opens 26 = .ok (.invokevirtual 337, 3) := by decide +kernel
theorem dX12_opens_29 : decode cX12_opens 29 = .ok (.aload_n 0, 1) := by decide +kernel
theorem dX12_opens_30 : decode cX12_opens 30 = .ok (.getfield 291, 3) := by decide +kernel
theorem dX12_opens_33 : decode cX12_opens 33 = .ok (.ifCond .ne 7, 3) := by decide +kernel
theorem dX12_opens_36 : decode cX12_opens 36 = .ok (.iconst 1, 1) := by decide +kernel
theorem dX12_opens_37 : decode cX12_opens 37 = .ok (.goto 4, 3) := by decide +kernel
theorem dX12_opens_40 : decode cX12_opens 40 = .ok (.iconst 0, 1) := by decide +kernel
theorem dX12_opens_41 : decode cX12_opens 41 = .ok (.ireturn, 1) := by decide +kernel
theorem dX12_open_0 : decode cX12_open 0 = .ok (.aload_n 0, 1) := by decide +kernel
theorem dX12_open_1 : decode cX12_open 1 = .ok (.getfield 291, 3) := by decide +kernel
theorem dX12_open_4 : decode cX12_open 4 = .ok (.ifCond .ne 34, 3) := by decide +kernel
theorem dX12_open_7 : decode cX12_open 7 = .ok (.aload_n 0, 1) := by decide +kernel
theorem dX12_open_8 : decode cX12_open 8 = .ok (.aload_n 0, 1) := by decide +kernel
theorem dX12_open_9 : decode cX12_open 9 = .ok (.getfield 307, 3) := by decide +kernel
theorem dX12_open_12 : decode cX12_open 12 = .ok (.iload_n 1, 1) := by decide +kernel
theorem dX12_open_13 : decode cX12_open 13 = .ok (.if_icmp .ne 7, 3) := by decide +kernel
theorem dX12_open_16 : decode cX12_open 16 = .ok (.iconst 1, 1) := by decide +kernel
theorem dX12_open_17 : decode cX12_open 17 = .ok (.goto 4, 3) := by decide +kernel
theorem dX12_open_20 : decode cX12_open 20 = .ok (.iconst 0, 1) := by decide +kernel
theorem dX12_open_21 : decode cX12_open 21 = .ok (.invokevirtual 341, 3) := by decide +kernel
theorem dX12_open_24 : decode cX12_open 24 = .ok (.ifCond .eq 14, 3) := by decide +kernel
theorem dX12_open_27 : decode cX12_open 27 = .ok (.aload_n 0, 1) := by decide +kernel
theorem dX12_open_28 : decode cX12_open 28 = .ok (.invokevirtual 351, 3) := by decide +kernel
theorem dX12_open_31 : decode cX12_open 31 = .ok (.ifCond .eq 7, 3) := by decide +kernel
theorem dX12_open_34 : decode cX12_open 34 = .ok (.aload_n 0, 1) := by decide +kernel
theorem dX12_open_35 : decode cX12_open 35 = .ok (.invokevirtual 345, 3) := by decide +kernel
theorem dX12_open_38 : decode cX12_open 38 = .ok (.aload_n 0, 1) := by decide +kernel
theorem dX12_open_39 : decode cX12_open 39 = .ok (.getfield 291, 3) := by decide +kernel
theorem dX12_open_42 : decode cX12_open 42 = .ok (.ifCond .ne 7, 3) := by decide +kernel
theorem dX12_open_45 : decode cX12_open 45 = .ok (.iconst 1, 1) := by decide +kernel
theorem dX12_open_46 : decode cX12_open 46 = .ok (.goto 4, 3) := by decide +kernel
theorem dX12_open_49 : decode cX12_open 49 = .ok (.iconst 0, 1) := by decide +kernel
theorem dX12_open_50 : decode cX12_open 50 = .ok (.ireturn, 1) := by decide +kernel
theorem dX12_shut_0 : decode cX12_shut 0 = .ok (.aload_n 0, 1) := by decide +kernel
theorem dX12_shut_1 : decode cX12_shut 1 = .ok (.iload_n 1, 1) := by decide +kernel
theorem dX12_shut_2 : decode cX12_shut 2 = .ok (.invokevirtual 355, 3) := by decide +kernel
theorem dX12_shut_5 : decode cX12_shut 5 = .ok (.ifCond .eq 13, 3) := by decide +kernel
theorem dX12_shut_8 : decode cX12_shut 8 = .ok (.aload_n 0, 1) := by decide +kernel
theorem dX12_shut_9 : decode cX12_shut 9 = .ok (.dup, 1) := by decide +kernel
theorem dX12_shut_10 : decode cX12_shut 10 = .ok (.getfield 348, 3) := by decide +kernel
theorem dX12_shut_13 : decode cX12_shut 13 = .ok (.iconst 1, 1) := by decide +kernel
theorem dX12_shut_14 : decode cX12_shut 14 = .ok (.isub, 1) := by decide +kernel
theorem dX12_shut_15 : decode cX12_shut 15 = .ok (.putfield 348, 3) := by decide +kernel
theorem dX12_shut_18 : decode cX12_shut 18 = .ok (.aload_n 0, 1) := by decide +kernel
theorem dX12_shut_19 : decode cX12_shut 19 = .ok (.getfield 291, 3) := by decide +kernel
theorem dX12_shut_22 : decode cX12_shut 22 = .ok (.ifCond .ne 7, 3) := by decide +kernel
theorem dX12_shut_25 : decode cX12_shut 25 = .ok (.iconst 1, 1) := by decide +kernel
theorem dX12_shut_26 : decode cX12_shut 26 = .ok (.goto 4, 3) := by decide +kernel
theorem dX12_shut_29 : decode cX12_shut 29 = .ok (.iconst 0, 1) := by decide +kernel
theorem dX12_shut_30 : decode cX12_shut 30 = .ok (.ireturn, 1) := by decide +kernel
theorem dX12_emit_0 : decode cX12_emit 0 = .ok (.aload_n 0, 1) := by decide +kernel
theorem dX12_emit_1 : decode cX12_emit 1 = .ok (.getfield 358, 3) := by decide +kernel
theorem dX12_emit_4 : decode cX12_emit 4 = .ok (.sipush 3000, 3) := by decide +kernel
theorem dX12_emit_7 : decode cX12_emit 7 = .ok (.if_icmp .ge 10, 3) := by decide +kernel
theorem dX12_emit_10 : decode cX12_emit 10 = .ok (.aload_n 0, 1) := by decide +kernel
theorem dX12_emit_11 : decode cX12_emit 11 = .ok (.getfield 358, 3) := by decide +kernel
theorem dX12_emit_14 : decode cX12_emit 14 = .ok (.goto 6, 3) := by decide +kernel
theorem dX12_emit_17 : decode cX12_emit 17 = .ok (.sipush 2999, 3) := by decide +kernel
theorem dX12_emit_20 : decode cX12_emit 20 = .ok (.istore_n 3, 1) := by decide +kernel
theorem dX12_emit_21 : decode cX12_emit 21 = .ok (.aload_n 0, 1) := by decide +kernel
theorem dX12_emit_22 : decode cX12_emit 22 = .ok (.getfield 84, 3) := by decide +kernel
theorem dX12_emit_25 : decode cX12_emit 25 = .ok (.iload_n 3, 1) := by decide +kernel
theorem dX12_emit_26 : decode cX12_emit 26 = .ok (.iload_n 1, 1) := by decide +kernel
theorem dX12_emit_27 : decode cX12_emit 27 = .ok (.iastore, 1) := by decide +kernel
theorem dX12_emit_28 : decode cX12_emit 28 = .ok (.aload_n 0, 1) := by decide +kernel
theorem dX12_emit_29 : decode cX12_emit 29 = .ok (.getfield 87, 3) := by decide +kernel
theorem dX12_emit_32 : decode cX12_emit 32 = .ok (.iload_n 3, 1) := by decide +kernel
theorem dX12_emit_33 : decode cX12_emit 33 = .ok (.iload_n 2, 1) := by decide +kernel
theorem dX12_emit_34 : decode cX12_emit 34 = .ok (.iastore, 1) := by decide +kernel
theorem dX12_emit_35 : decode cX12_emit 35 = .ok (.aload_n 0, 1) := by decide +kernel
theorem dX12_emit_36 : decode cX12_emit 36 = .ok (.getfield 90, 3) := by decide +kernel
theorem dX12_emit_39 : decode cX12_emit 39 = .ok (.iload_n 3, 1) := by decide +kernel
theorem dX12_emit_40 : decode cX12_emit 40 = .ok (.iconst 0, 1) := by decide +kernel
theorem dX12_emit_41 : decode cX12_emit 41 = .ok (.iastore, 1) := by decide +kernel
theorem dX12_emit_42 : decode cX12_emit 42 = .ok (.aload_n 0, 1) := by decide +kernel
theorem dX12_emit_43 : decode cX12_emit 43 = .ok (.iload_n 3, 1) := by decide +kernel
theorem dX12_emit_44 : decode cX12_emit 44 = .ok (.iconst 1, 1) := by decide +kernel
theorem dX12_emit_45 : decode cX12_emit 45 = .ok (.iadd, 1) := by decide +kernel
theorem dX12_emit_46 : decode cX12_emit 46 = .ok (.putfield 358, 3) := by decide +kernel
theorem dX12_emit_49 : decode cX12_emit 49 = .ok (.iload_n 3, 1) := by decide +kernel
theorem dX12_emit_50 : decode cX12_emit 50 = .ok (.ireturn, 1) := by decide +kernel
theorem dX12_seenAs_0 : decode cX12_seenAs 0 = .ok (.aload_n 0, 1) := by decide +kernel
theorem dX12_seenAs_1 : decode cX12_seenAs 1 = .ok (.getfield 361, 3) := by decide +kernel
theorem dX12_seenAs_4 : decode cX12_seenAs 4 = .ok (.iconst 1, 1) := by decide +kernel
theorem dX12_seenAs_5 : decode cX12_seenAs 5 = .ok (.isub, 1) := by decide +kernel
theorem dX12_seenAs_6 : decode cX12_seenAs 6 = .ok (.istore_n 3, 1) := by decide +kernel
theorem dX12_seenAs_7 : decode cX12_seenAs 7 = .ok (.iload_n 3, 1) := by decide +kernel
theorem dX12_seenAs_8 : decode cX12_seenAs 8 = .ok (.ifCond .lt 22, 3) := by decide +kernel
end
